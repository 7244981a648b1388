import java.util.Arrays;

/** What can and say are called with. */
final class Saying {
  private static final int NONE = ParleyRoom.NONE;

  private final int[] told;

  private Saying(int... told) {
    this.told = told;
  }

  static Saying of(int speaker, int act, int about, int value, int to, int given) {
    return new Saying(speaker, act, about, value, to, given);
  }

  /** Arguments of an act by speaker 3 that are in their ranges, where turn 0 was said. */
  static Saying inRange(int act) {
    return act == ParleyRoom.OFFER ? of(3, act, 128, 0, 1, 5) : of(3, act, 0, 1, 1, NONE);
  }

  private Saying with(int place, int number) {
    int[] other = told.clone();
    other[place] = number;
    return new Saying(other);
  }

  Saying by(int speaker) {
    return with(0, speaker);
  }

  Saying act(int act) {
    return with(1, act);
  }

  Saying about(int about) {
    return with(2, about);
  }

  Saying value(int value) {
    return with(3, value);
  }

  Saying to(int to) {
    return with(4, to);
  }

  Saying given(int given) {
    return with(5, given);
  }

  boolean can(ParleyRoom room) {
    return room.can(told[0], told[1], told[2], told[3], told[4], told[5]);
  }

  int say(ParleyRoom room) {
    return room.say(told[0], told[1], told[2], told[3], told[4], told[5]);
  }

  @Override
  public String toString() {
    return Arrays.toString(told);
  }
}
