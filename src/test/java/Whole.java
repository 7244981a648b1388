import java.util.function.Supplier;

/**
 * All that can be told of a room, as one text: what it answers, what was told of its speakers, and
 * how it goes on. Each part is asked of a room of its own, made anew, so that none is used for more
 * than 512 calls.
 */
final class Whole {
  private static final int TURNS_AT_A_TIME = 20;

  private final StringBuilder text = new StringBuilder();
  private ParleyRoom room;

  private Whole() {}

  static String of(Supplier<ParleyRoom> scene) {
    Whole whole = new Whole();
    whole.room = scene.get();
    whole.addNumbers();
    for (int first = 0; first < scene.get().said(); first += TURNS_AT_A_TIME) {
      whole.room = scene.get();
      whole.addTurns(first);
    }
    whole.room = scene.get();
    whole.addCommitments();
    whole.room = scene.get();
    whole.addGround();
    whole.room = scene.get();
    whole.addWhatWasTold();
    whole.room = scene.get();
    whole.addVoices();
    whole.room = scene.get();
    whole.room.tick(3);
    whole.addCommitments();
    whole.room = scene.get();
    whole.room.tick(6);
    whole.addTurns(0);
    return whole.text.toString();
  }

  private void add(String name, int... numbers) {
    text.append(name);
    for (int number : numbers) {
      text.append(' ').append(number);
    }
    text.append('\n');
  }

  private static int bit(boolean is) {
    return is ? 1 : 0;
  }

  private void addNumbers() {
    add("numbers", room.clock(), room.next(), room.said(), room.questions(), room.quarrels(),
        room.deals(), room.minutes());
    for (int place = 0; place < room.questions(); place++) {
      add("question " + place, room.question(place, 0), room.question(place, 1),
          room.question(place, 2), room.question(place, 3));
    }
    for (int good = 0; good < 8; good++) {
      add("good " + good, room.owner(good));
    }
    for (int speaker = 0; speaker < 4; speaker++) {
      add("lies of " + speaker, room.lies(speaker));
    }
  }

  private void addTurns(int first) {
    int said = room.said();
    for (int turn = first; turn < said && turn < first + TURNS_AT_A_TIME; turn++) {
      for (int what = 0; what <= 8; what++) {
        add("turn " + turn, what, room.turn(turn, what));
      }
      for (int hearer = 0; hearer < 4; hearer++) {
        add("turn " + turn + " for " + hearer, room.heard(turn, hearer));
      }
    }
  }

  private void addCommitments() {
    for (int speaker = 0; speaker < 4; speaker++) {
      for (int atom = 0; atom < 10; atom++) {
        add("speaker " + speaker + ", atom " + atom, room.stand(speaker, atom),
            room.standBy(speaker, atom), room.standAnew(speaker, atom),
            room.hint(speaker, atom), bit(room.isSupported(speaker, atom)));
      }
    }
  }

  private void addGround() {
    for (int set = 1; set <= 15; set++) {
      for (int atom = 0; atom < 10; atom++) {
        add("ground of " + set + " about " + atom, room.ground(set, atom));
      }
    }
  }

  private void addWhatWasTold() {
    add("strict", bit(room.strict(false)));
    for (int speaker = 0; speaker < 4; speaker++) {
      add("told of " + speaker, room.power(speaker, 0), room.knows(speaker, 1, 0, false));
      for (int atom = 0; atom < 10; atom++) {
        add("believes " + atom, room.believe(speaker, atom, 0));
      }
    }
  }

  /** Languages, interpreters and deafness show only in what is heard of turns. */
  private void addVoices() {
    room.strict(false);
    for (int tick = 0; tick < 24; tick++) {
      int speaker = tick % 4;
      int to = Talk.allBut(speaker);
      if (room.can(speaker, ParleyRoom.HINT, 9, 1, to, -1)) {
        int turn = room.say(speaker, ParleyRoom.HINT, 9, 1, to, -1);
        room.tick(1);
        add("voice of " + speaker, room.turn(turn, 6), room.heard(turn, 0), room.heard(turn, 1),
            room.heard(turn, 2), room.heard(turn, 3));
      } else {
        add("next", room.next(), room.tick(1));
      }
    }
  }
}
