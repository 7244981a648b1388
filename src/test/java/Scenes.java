import java.util.function.Supplier;

/** Rooms in which something was told and said, made anew each time. */
final class Scenes {
  static final Supplier<ParleyRoom> NEW = ParleyRoom::new;
  static final Supplier<ParleyRoom> BUSY = Scenes::busy;
  static final Supplier<ParleyRoom> FULL = Scenes::full;

  /** The open questions of BUSY, and its turns. */
  static final int BUSY_QUESTIONS = 2;
  static final int BUSY_TURNS = 12;

  private static final int YES = ParleyRoom.YES;
  private static final int NO = ParleyRoom.NO;

  private Scenes() {}

  /**
   * Something of all there is: a quarrel, a lie, a reason, hints, an open offer, questions, one who
   * is deaf, a turn that is coming, strict rules, and two turns that are only said.
   */
  private static ParleyRoom busy() {
    Talk talk = new Talk();
    tellOfAll(talk.room);
    talk.quarrel(2);
    talk.asserts(0, 4, YES);
    talk.does(0, ParleyRoom.BECAUSE, 4, 5);
    int hint = talk.hints(2, 6, NO);
    talk.replies(3, ParleyRoom.ACK, hint);
    talk.asks(3, 8, 2);
    talk.offers(0, 3, 4, 1, 6);
    talk.room.knows(3, 6, 1, false);
    talk.room.deafen(0, 7);
    int coming = talk.hints(3, 7, YES);
    talk.asks(1, 3, 2);
    talk.room.strict(true);
    talk.say(0, ParleyRoom.RETRACT, 2, 0);
    talk.say(2, ParleyRoom.ACK, coming, 0);
    return talk.room;
  }

  private static void tellOfAll(ParleyRoom room) {
    room.power(0, 3);
    room.power(1, 1);
    room.power(2, 9);
    room.knows(2, 3, 0, true);
    room.believe(0, 4, NO);
    room.believe(1, 2, YES);
    room.believe(3, 9, NO);
    room.give(0, 0);
    room.give(1, 0);
    room.give(2, 1);
    room.give(7, 3);
  }

  /** 100 turns. */
  private static ParleyRoom full() {
    Talk talk = new Talk();
    for (int i = 0; i < 25; i++) {
      for (int speaker = 0; speaker < 4; speaker++) {
        talk.say(speaker, ParleyRoom.HINT, speaker, YES);
      }
      talk.room.tick(1);
    }
    return talk.room;
  }

  /** So many questions of speaker 0 to speaker 1, about the atoms from 0. */
  static Supplier<ParleyRoom> asked(int questions) {
    return () -> {
      Talk talk = new Talk();
      for (int i = 0; i < questions; i++) {
        talk.asks(0, i, 1);
      }
      return talk.room;
    };
  }

  /** One claim by speaker 0, about atom 0, heard by all. */
  static Supplier<ParleyRoom> claimed() {
    return () -> {
      Talk talk = new Talk();
      talk.asserts(0, 0, YES);
      return talk.room;
    };
  }
}
