/** Promises 10 and 25: quarrels, how they begin and end. */
final class QuarrelTests {
  private QuarrelTests() {}

  static void run() {
    begin();
    amongAnyTwo();
    theSame();
    bothWays();
    endByReasons();
    endByRetracting();
    endByAgreeing();
    stay();
    endByHintsAndSilence();
    endInBetween();
  }

  private static void count(Talk talk, String what, int due) {
    Check.same("quarrels " + what, talk.room.quarrels(), due);
  }

  private static void begin() {
    Talk talk = new Talk();
    int claim = talk.quarrel(3);
    count(talk, "by a denial", 1);
    talk.asserts(2, 3, 2);
    count(talk, "not by an assertion", 1);
    talk.replies(3, ParleyRoom.DENY, claim);
    count(talk, "with another", 2);
    talk.quarrel(4);
    count(talk, "about another atom", 3);

    talk = new Talk();
    claim = talk.asserts(0, 3, 1);
    talk.does(0, ParleyRoom.RETRACT, 3, 0);
    talk.replies(1, ParleyRoom.DENY, claim);
    count(talk, "about what is taken back", 0);
    talk.asserts(0, 3, 2);
    talk.replies(1, ParleyRoom.DENY, claim);
    count(talk, "about what is turned round", 0);
    int again = talk.asserts(0, 3, 1);
    count(talk, "by asserting again", 0);
    talk.replies(1, ParleyRoom.DENY, claim);
    count(talk, "about what is asserted by another turn", 1);
    Check.same("that turn", talk.room.standBy(0, 3), again);
  }

  private static void amongAnyTwo() {
    for (int asserter = 0; asserter < 4; asserter++) {
      for (int other = 0; other < 4; other++) {
        if (other != asserter) {
          twoQuarrel(asserter, other);
        }
      }
    }
  }

  private static void twoQuarrel(int asserter, int other) {
    Talk talk = new Talk();
    int claim = talk.asserts(asserter, 0, 2);
    int denial = talk.does(other, ParleyRoom.DENY, claim, 3);
    count(talk, "between two", 1);
    Check.same("the value of a denial stays", talk.room.turn(denial, 3), 3);
    talk.does(asserter, ParleyRoom.BECAUSE, 0, 9);
    count(talk, "ended by a reason", 0);
    talk.replies(other, ParleyRoom.DENY, claim);
    talk.replies(other, ParleyRoom.CONCEDE, claim);
    count(talk, "ended by conceding", 0);
    talk.replies(other, ParleyRoom.DENY, claim);
    talk.does(asserter, ParleyRoom.RETRACT, 0, 0);
    count(talk, "ended by retracting", 0);
  }

  private static void theSame() {
    Talk talk = new Talk();
    int claim = talk.quarrel(3);
    talk.replies(1, ParleyRoom.DENY, claim);
    count(talk, "of the same, twice", 1);
    talk.does(0, ParleyRoom.BECAUSE, 3, 5);
    count(talk, "ended", 0);
    talk.replies(1, ParleyRoom.DENY, claim);
    count(talk, "denied anew", 1);
  }

  private static void bothWays() {
    Talk talk = new Talk();
    talk.quarrel(3);
    int claim = talk.asserts(1, 3, 2);
    talk.replies(0, ParleyRoom.DENY, claim);
    count(talk, "each asserts in one", 2);
    talk.room.strict(true);
    Check.same("the one", talk.can(0, ParleyRoom.HINT, 1, 1), false);
    Check.same("the other", talk.can(1, ParleyRoom.HINT, 1, 1), false);
    talk.does(0, ParleyRoom.BECAUSE, 3, 5);
    count(talk, "only that in which it asserts ends", 1);
    Check.same("the one is free", talk.can(0, ParleyRoom.HINT, 1, 1), true);
    Check.same("the other is not", talk.can(1, ParleyRoom.HINT, 1, 1), false);
  }

  private static void endByReasons() {
    Talk talk = new Talk();
    int claim = talk.quarrel(3);
    talk.replies(2, ParleyRoom.DENY, claim);
    talk.quarrel(4);
    count(talk, "before reasons", 3);
    talk.does(1, ParleyRoom.BECAUSE, 3, 6);
    count(talk, "the one who denied has reasons", 3);
    talk.does(0, ParleyRoom.BECAUSE, 3, 6);
    count(talk, "all about that atom end", 1);
    Check.same("they stay contrary", talk.room.stand(0, 3) + talk.room.stand(1, 3), 3);
    talk.asserts(2, 4, 2);
    talk.does(0, ParleyRoom.BECAUSE, 4, 3);
    count(talk, "the last one ends", 0);
  }

  private static void endByRetracting() {
    Talk talk = new Talk();
    int claim = talk.quarrel(3);
    talk.quarrel(4);
    talk.replies(2, ParleyRoom.DENY, claim);
    count(talk, "before retracting", 3);
    talk.does(1, ParleyRoom.RETRACT, 3, 0);
    count(talk, "the one who denied retracts", 2);
    talk.does(0, ParleyRoom.RETRACT, 3, 0);
    count(talk, "the one who asserts retracts", 1);
    talk.asserts(0, 3, 1);
    count(talk, "ended is ended", 1);
  }

  private static void endByAgreeing() {
    Talk talk = new Talk();
    int claim = talk.quarrel(3);
    talk.replies(1, ParleyRoom.CONCEDE, claim);
    count(talk, "after conceding", 0);
    talk.replies(1, ParleyRoom.DENY, claim);
    count(talk, "after denying again", 1);
    talk.asserts(0, 3, 2);
    count(talk, "after turning round", 0);
    talk.asserts(1, 3, 1);
    count(talk, "contrary again", 0);

    talk = new Talk();
    talk.quarrel(3);
    talk.asserts(1, 4, 1);
    talk.does(1, ParleyRoom.BECAUSE, 4, 3);
    count(talk, "the atom as a reason", 0);

    talk = new Talk();
    talk.quarrel(3);
    talk.does(1, ParleyRoom.ASK, 4, 0, 4, 3);
    count(talk, "the atom as given", 0);
  }

  private static void stay() {
    Talk talk = new Talk();
    talk.quarrel(3);
    talk.does(0, ParleyRoom.ASSERT, 3, 1);
    count(talk, "asserted once more", 1);
    talk.asserts(1, 3, 2);
    count(talk, "denied once more", 1);
    talk.asserts(2, 3, 1);
    talk.does(2, ParleyRoom.RETRACT, 3, 0);
    count(talk, "what others hold does not matter", 1);
    talk.room.tick(20);
    count(talk, "time does not matter", 1);
  }

  private static void endByHintsAndSilence() {
    Talk talk = new Talk();
    int hint = talk.hints(1, 3, 1);
    talk.replies(2, ParleyRoom.ACK, hint);
    talk.quarrel(3);
    count(talk, "before the hint hardens", 1);
    talk.room.tick(1);
    count(talk, "the hint hardens", 0);
    Check.same("by the hint", talk.room.standBy(1, 3), hint);

    talk = new Talk();
    talk.quarrel(3);
    hint = talk.hints(0, 3, 1);
    talk.replies(2, ParleyRoom.ACK, hint);
    talk.room.tick(6);
    count(talk, "a hint of what is asserted", 1);
  }

  /** A quarrel ends when it is so, though the same turn makes them contrary again. */
  private static void endInBetween() {
    Talk talk = new Talk();
    talk.quarrel(3);
    int turn = talk.does(1, ParleyRoom.ASSERT, 3, 2, Talk.to(0), 3);
    Check.same("done", talk.state(turn), ParleyRoom.DONE);
    Check.same("contrary again", talk.room.stand(1, 3), 2);
    count(talk, "given and contradicted", 0);
  }
}
