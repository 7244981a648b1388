/**
 * A room with short ways to speak in it. The calls named by an act say it and let one tick go by;
 * where nothing else is told, it is said to all others.
 */
final class Talk {
  static final int NONE = ParleyRoom.NONE;
  static final int YES = ParleyRoom.YES;
  static final int NO = ParleyRoom.NO;

  final ParleyRoom room = new ParleyRoom();

  static int to(int... speakers) {
    int set = 0;
    for (int speaker : speakers) {
      set |= 1 << speaker;
    }
    return set;
  }

  static int allBut(int speaker) {
    return 15 & ~(1 << speaker);
  }

  int say(int speaker, int act, int about, int value) {
    return room.say(speaker, act, about, value, allBut(speaker), NONE);
  }

  boolean can(int speaker, int act, int about, int value) {
    return room.can(speaker, act, about, value, allBut(speaker), NONE);
  }

  int does(int speaker, int act, int about, int value, int to, int given) {
    int turn = room.say(speaker, act, about, value, to, given);
    room.tick(1);
    return turn;
  }

  int does(int speaker, int act, int about, int value) {
    return does(speaker, act, about, value, allBut(speaker), NONE);
  }

  int asserts(int speaker, int atom, int value) {
    return does(speaker, ParleyRoom.ASSERT, atom, value);
  }

  int asks(int speaker, int atom, int one) {
    return does(speaker, ParleyRoom.ASK, atom, 0, to(one), NONE);
  }

  int answers(int speaker, int value) {
    return does(speaker, ParleyRoom.ANSWER, 0, value);
  }

  int hints(int speaker, int atom, int value) {
    return does(speaker, ParleyRoom.HINT, atom, value);
  }

  int offers(int speaker, int goods, int forGoods, int one, int ticks) {
    return does(speaker, ParleyRoom.OFFER, goods, forGoods, to(one), ticks);
  }

  /** Says an act about a turn, and lets a tick go by. */
  int replies(int speaker, int act, int turn) {
    return does(speaker, act, turn, 0);
  }

  int state(int turn) {
    return room.turn(turn, 6);
  }

  boolean isOpen(int turn) {
    return room.turn(turn, 8) == 1;
  }

  /** Speaker 0 asserts an atom to be so, speaker 1 denies it. Returns the claim. */
  int quarrel(int atom) {
    int claim = asserts(0, atom, YES);
    replies(1, ParleyRoom.DENY, claim);
    return claim;
  }
}
