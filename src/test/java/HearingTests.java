/** Promises 3, 5, 10 and 15: languages, interpreters, deafness, and what hearers have of turns. */
final class HearingTests {
  private HearingTests() {}

  static void run() {
    toWhom();
    languages();
    interpreters();
    interpretersInTurn();
    interpretersThatAreNone();
    languageOfTheTurn();
    deafness();
    deafAsItComes();
    repeat();
    repeatLeavesTheRest();
    arguments();
  }

  private static void heard(Talk talk, int turn, int... due) {
    for (int hearer = 0; hearer < 4; hearer++) {
      Check.same("what " + hearer + " has of turn " + turn,
          talk.room.heard(turn, hearer), due[hearer]);
    }
  }

  private static void toWhom() {
    Talk talk = new Talk();
    int turn = talk.room.say(1, ParleyRoom.HINT, 0, 1, Talk.to(0, 3), -1);
    heard(talk, turn, 0, 0, 0, 0);
    talk.room.tick(1);
    heard(talk, turn, 3, 0, 0, 3);
    talk.replies(3, ParleyRoom.ACK, turn);
    heard(talk, turn, 3, 0, 0, 4);
  }

  private static void languages() {
    Talk talk = new Talk();
    talk.room.knows(0, 6, 2, false);
    talk.room.knows(1, 4, 2, false);
    talk.room.knows(2, 3, 1, false);
    heard(talk, talk.hints(0, 0, 1), 0, 3, 1, 1);
    talk.room.knows(0, 6, 1, false);
    heard(talk, talk.hints(0, 0, 1), 0, 1, 3, 1);
    heard(talk, talk.hints(3, 0, 1), 1, 1, 3, 0);
  }

  private static void interpreters() {
    Talk talk = new Talk();
    talk.room.knows(0, 2, 1, false);
    talk.room.knows(2, 3, 0, true);
    talk.room.knows(3, 4, 2, false);
    int turn = talk.hints(0, 0, 1);
    heard(talk, turn, 0, 2, 3, 1);
    Check.notNow(talk.room, "ack of what is coming", () -> talk.say(1, ParleyRoom.ACK, turn, 0));
    Check.notNow(talk.room, "clarify of what is coming",
        () -> talk.say(1, ParleyRoom.CLARIFY, turn, 0));
    talk.room.tick(1);
    heard(talk, turn, 0, 3, 3, 1);
    int other = talk.does(0, ParleyRoom.HINT, 0, 1, Talk.to(1), -1);
    heard(talk, other, 0, 1, 0, 0);

    Talk late = new Talk();
    late.room.knows(0, 2, 1, false);
    late.room.knows(2, 3, 0, true);
    late.room.tick(5);
    int coming = late.hints(0, 0, 1);
    late.room.knows(1, 4, 2, false);
    late.room.knows(2, 1, 0, false);
    heard(late, coming, 0, 2, 3, 2);
    late.room.tick(1);
    heard(late, coming, 0, 3, 3, 3);
  }

  /** All have their roles in turn: one speaks, one interprets, one hears late, one misses it. */
  private static void interpretersInTurn() {
    for (int speaker = 0; speaker < 4; speaker++) {
      for (int shift = 1; shift < 4; shift++) {
        int interpreter = (speaker + shift) % 4;
        int hearer = (speaker + shift % 3 + 1) % 4;
        int deaf = 6 - speaker - interpreter - hearer;
        Talk talk = new Talk();
        talk.room.knows(speaker, 4, 2, false);
        talk.room.knows(interpreter, 5, 0, true);
        talk.room.deafen(deaf, 1);
        int turn = talk.hints(speaker, 0, 1);
        Check.same("interpreter", talk.room.heard(turn, interpreter), ParleyRoom.HEARD);
        Check.same("hearer", talk.room.heard(turn, hearer), ParleyRoom.COMING);
        Check.same("deaf one", talk.room.heard(turn, deaf), ParleyRoom.MISSED);
        Check.same("repeat", talk.can(speaker, ParleyRoom.REPEAT, turn, 0), true);
        talk.room.tick(1);
        Check.same("hearer, later", talk.room.heard(turn, hearer), ParleyRoom.HEARD);
      }
    }
  }

  private static void interpretersThatAreNone() {
    Talk talk = new Talk();
    talk.room.knows(0, 2, 1, true);
    talk.room.knows(1, 4, 2, true);
    heard(talk, talk.hints(0, 0, 1), 0, 1, 1, 1);
    talk.room.knows(2, 3, 0, false);
    heard(talk, talk.hints(0, 0, 1), 0, 1, 3, 1);
    talk.room.knows(2, 3, 0, true);
    heard(talk, talk.hints(0, 0, 1), 0, 1, 3, 2);
    talk.room.knows(2, 7, 0, true);
    heard(talk, talk.hints(0, 0, 1), 0, 2, 3, 2);
    talk.room.knows(2, 2, 1, true);
    heard(talk, talk.hints(0, 0, 1), 0, 1, 3, 1);
    talk.room.knows(2, 5, 0, true);
    heard(talk, talk.hints(0, 0, 1), 0, 1, 1, 1);
    talk.room.knows(2, 3, 0, true);
    talk.room.deafen(2, 1);
    heard(talk, talk.hints(0, 0, 1), 0, 1, 1, 1);
    heard(talk, talk.hints(0, 0, 1), 0, 1, 3, 2);
  }

  private static void languageOfTheTurn() {
    Talk talk = new Talk();
    talk.room.knows(0, 3, 1, false);
    int turn = talk.say(0, ParleyRoom.HINT, 0, 1);
    talk.room.knows(0, 3, 0, false);
    talk.room.tick(1);
    heard(talk, turn, 0, 1, 1, 1);
    int repeat = talk.replies(0, ParleyRoom.REPEAT, turn);
    heard(talk, turn, 0, 1, 1, 1);
    heard(talk, repeat, 0, 3, 3, 3);
    talk.say(0, ParleyRoom.REPEAT, turn, 0);
    talk.room.knows(2, 3, 0, false);
    talk.room.tick(1);
    heard(talk, turn, 0, 1, 3, 1);
  }

  private static void deafness() {
    Talk talk = new Talk();
    talk.room.deafen(1, 2);
    talk.room.deafen(2, 1);
    talk.room.deafen(3, 3);
    talk.room.deafen(3, 0);
    heard(talk, talk.hints(0, 0, 1), 0, 1, 1, 3);
    heard(talk, talk.hints(0, 0, 1), 0, 1, 3, 3);
    heard(talk, talk.hints(0, 0, 1), 0, 3, 3, 3);
    int turn = talk.say(0, ParleyRoom.HINT, 0, 1);
    talk.room.deafen(1, 1);
    talk.room.tick(5);
    heard(talk, turn, 0, 1, 3, 3);
  }

  private static void deafAsItComes() {
    Talk talk = new Talk();
    talk.room.knows(0, 2, 1, false);
    talk.room.knows(3, 3, 0, true);
    int turn = talk.hints(0, 0, 1);
    talk.room.deafen(1, 1);
    talk.room.deafen(2, 2);
    talk.room.tick(1);
    heard(talk, turn, 0, 3, 1, 3);
    talk.room.tick(3);
    heard(talk, turn, 0, 3, 1, 3);
    int clarify = talk.replies(2, ParleyRoom.CLARIFY, turn);
    Check.same("what is missed as it comes can be asked back",
        talk.state(clarify), ParleyRoom.DONE);
    talk.replies(0, ParleyRoom.REPEAT, turn);
    heard(talk, turn, 0, 3, 2, 3);
    talk.room.tick(1);
    heard(talk, turn, 0, 3, 3, 3);
  }

  private static void repeat() {
    Talk talk = new Talk();
    talk.room.deafen(1, 1);
    talk.room.deafen(2, 2);
    int turn = talk.does(0, ParleyRoom.ASSERT, 3, 1, Talk.to(1, 2), -1);
    heard(talk, turn, 0, 1, 1, 0);
    int repeat = talk.does(0, ParleyRoom.REPEAT, turn, 0, Talk.to(3), -1);
    heard(talk, turn, 0, 3, 1, 0);
    heard(talk, repeat, 0, 0, 0, 3);
    talk.replies(1, ParleyRoom.ACK, turn);
    talk.replies(0, ParleyRoom.REPEAT, turn);
    heard(talk, turn, 0, 4, 3, 0);
    Check.same("a repeat does not do it again", talk.room.standBy(0, 3), turn);
    Check.same("a repeat leaves the clock", talk.room.turn(turn, 7), 0);
    Check.same("a repeat leaves what it is", talk.state(turn), ParleyRoom.DONE);
  }

  private static void repeatLeavesTheRest() {
    Talk talk = new Talk();
    talk.room.knows(0, 2, 1, false);
    talk.room.knows(2, 3, 0, true);
    talk.room.deafen(3, 1);
    int turn = talk.hints(0, 0, 1);
    heard(talk, turn, 0, 2, 3, 1);
    talk.say(0, ParleyRoom.REPEAT, turn, 0);
    talk.room.tick(1);
    heard(talk, turn, 0, 3, 3, 2);
    talk.room.tick(1);
    heard(talk, turn, 0, 3, 3, 3);
  }

  private static void arguments() {
    Talk talk = new Talk();
    Check.noSuch(talk.room, "heard without a turn", () -> talk.room.heard(0, 0));
    talk.hints(0, 0, 1);
    Check.noSuch(talk.room, "heard of -1", () -> talk.room.heard(-1, 0));
    Check.noSuch(talk.room, "heard of 1", () -> talk.room.heard(1, 0));
    Check.noSuch(talk.room, "heard by -1", () -> talk.room.heard(0, -1));
    Check.noSuch(talk.room, "heard by 4", () -> talk.room.heard(0, 4));
  }
}
