/** Promises 10 and 16 to 21: commitments by turns, given atoms, hints, silence, reasons, lies. */
final class CommitmentTests {
  private CommitmentTests() {}

  static void run() {
    byOwnTurns();
    retract();
    given();
    challenged();
    hints();
    hintsThatHarden();
    hintsTakenBack();
    silence();
    silenceThatDoesNotCount();
    silenceInOrder();
    silenceHeardLate();
    reasons();
    lies();
    noLies();
    arguments();
  }

  private static void stands(Talk talk, int speaker, int atom, int value, int by) {
    String what = "speaker " + speaker + ", atom " + atom + ": ";
    Check.same(what + "stand", talk.room.stand(speaker, atom), value);
    Check.same(what + "standBy", talk.room.standBy(speaker, atom), by);
    Check.same(what + "standAnew", talk.room.standAnew(speaker, atom), value);
  }

  private static void byOwnTurns() {
    Talk talk = new Talk();
    int claim = talk.say(0, ParleyRoom.ASSERT, 9, 2);
    stands(talk, 0, 9, 0, -1);
    talk.room.tick(1);
    stands(talk, 0, 9, 2, claim);
    stands(talk, 1, 9, 0, -1);
    int again = talk.asserts(0, 9, 2);
    stands(talk, 0, 9, 2, again);
    int turned = talk.asserts(0, 9, 1);
    stands(talk, 0, 9, 1, turned);
    stands(talk, 1, 9, 0, -1);
    int concede = talk.replies(1, ParleyRoom.CONCEDE, claim);
    stands(talk, 1, 9, 2, concede);
    int deny = talk.replies(2, ParleyRoom.DENY, claim);
    stands(talk, 2, 9, 1, deny);
    int denyYes = talk.replies(3, ParleyRoom.DENY, turned);
    stands(talk, 3, 9, 2, denyYes);
    talk.asks(1, 4, 0);
    int answer = talk.answers(0, 1);
    stands(talk, 0, 4, 1, answer);
    int concedeAnswer = talk.replies(2, ParleyRoom.CONCEDE, answer);
    stands(talk, 2, 4, 1, concedeAnswer);
    talk.asks(1, 4, 0);
    talk.answers(0, 0);
    stands(talk, 0, 4, 1, answer);
    talk.asks(1, 4, 0);
    stands(talk, 0, 4, 2, talk.answers(0, 2));
  }

  private static void retract() {
    Talk talk = new Talk();
    talk.asserts(0, 3, 2);
    int other = talk.asserts(1, 3, 2);
    talk.does(0, ParleyRoom.RETRACT, 3, 0);
    stands(talk, 0, 3, 0, -1);
    stands(talk, 1, 3, 2, other);
    stands(talk, 0, 3, 1, talk.asserts(0, 3, 1));
  }

  private static void given() {
    Talk talk = new Talk();
    int claim = talk.does(0, ParleyRoom.ASSERT, 3, 2, 14, 5);
    stands(talk, 0, 3, 2, claim);
    stands(talk, 0, 5, 1, claim);
    int other = talk.does(0, ParleyRoom.ASSERT, 4, 2, 14, 5);
    stands(talk, 0, 5, 1, claim);
    stands(talk, 0, 4, 2, other);
    talk.asserts(0, 6, 2);
    int turned = talk.does(0, ParleyRoom.ASK, 2, 0, 2, 6);
    stands(talk, 0, 6, 1, turned);
    stands(talk, 0, 2, 0, -1);
    Check.same("the ask is put", talk.room.question(0, 3), turned);
    int hint = talk.does(1, ParleyRoom.HINT, 0, 1, 1, 7);
    stands(talk, 1, 7, 0, -1);
    Check.same("a hint takes nothing for given", talk.state(hint), ParleyRoom.DONE);
    int self = talk.does(1, ParleyRoom.ASSERT, 8, 2, 1, 8);
    stands(talk, 1, 8, 2, self);
  }

  private static void challenged() {
    Talk talk = new Talk();
    talk.asserts(1, 5, 2);
    talk.asserts(2, 6, 1);
    int fine = talk.does(0, ParleyRoom.ASSERT, 3, 1, Talk.to(2, 3), 5);
    Check.same("not said to the one who denies", talk.state(fine), ParleyRoom.DONE);
    int alsoFine = talk.does(0, ParleyRoom.ASSERT, 3, 1, Talk.to(1, 2, 3), 6);
    Check.same("all hold it or nothing", talk.state(alsoFine), ParleyRoom.DONE);
    talk.room.deafen(1, 1);
    int turn = talk.does(3, ParleyRoom.ASSERT, 4, 1, Talk.to(1, 2), 5);
    Check.same("challenged", talk.state(turn), ParleyRoom.CHALLENGED);
    Check.same("with a clock", talk.room.turn(turn, 7), talk.room.clock() - 1);
    Check.same("heard", talk.room.heard(turn, 2), ParleyRoom.HEARD);
    Check.same("by the deaf one not", talk.room.heard(turn, 1), ParleyRoom.MISSED);
    stands(talk, 3, 4, 0, -1);
    stands(talk, 3, 5, 0, -1);
    int ask = talk.does(3, ParleyRoom.ASK, 4, 0, Talk.to(1), 5);
    Check.same("an ask, challenged", talk.state(ask), ParleyRoom.CHALLENGED);
    Check.same("puts no question", talk.room.questions(), 0);
    talk.does(1, ParleyRoom.RETRACT, 5, 0);
    int later = talk.does(3, ParleyRoom.ASSERT, 4, 1, Talk.to(1, 2), 5);
    Check.same("not any more", talk.state(later), ParleyRoom.DONE);
  }

  private static void hints() {
    Talk talk = new Talk();
    int first = talk.hints(0, 3, 2);
    Check.same("hint", talk.room.hint(0, 3), 2);
    Check.same("hint of another atom", talk.room.hint(0, 4), 0);
    Check.same("hint of another speaker", talk.room.hint(1, 3), 0);
    stands(talk, 0, 3, 0, -1);
    talk.room.tick(3);
    Check.same("4 ticks ago", talk.room.hint(0, 3), 2);
    talk.room.tick(1);
    Check.same("5 ticks ago", talk.room.hint(0, 3), 0);
    stands(talk, 0, 3, 0, -1);
    Check.same("the turn stays", talk.state(first), ParleyRoom.DONE);
  }

  private static void hintsThatHarden() {
    Talk talk = new Talk();
    int hint = talk.hints(0, 3, 2);
    int claim = talk.asserts(0, 3, 1);
    talk.replies(1, ParleyRoom.ACK, hint);
    talk.room.tick(1);
    stands(talk, 0, 3, 1, claim);
    talk.room.tick(1);
    stands(talk, 0, 3, 2, hint);
    Check.same("it is a hint no more", talk.room.hint(0, 3), 0);
    Check.same("by a hint nobody lies", talk.room.lies(0), 0);
    stands(talk, 1, 3, 0, -1);

    talk = new Talk();
    hint = talk.hints(0, 3, 2);
    talk.room.tick(3);
    talk.replies(1, ParleyRoom.ACK, hint);
    stands(talk, 0, 3, 2, hint);

    for (int speaker = 0; speaker < 4; speaker++) {
      for (int atom = 0; atom < 10; atom++) {
        talk = new Talk();
        hint = talk.hints(speaker, atom, 1);
        talk.replies((speaker + 1) % 4, ParleyRoom.ACK, hint);
        talk.room.tick(3);
        stands(talk, speaker, atom, 1, hint);
      }
    }

    talk = new Talk();
    hint = talk.hints(0, 3, 2);
    talk.room.tick(4);
    talk.replies(1, ParleyRoom.ACK, hint);
    talk.room.tick(5);
    stands(talk, 0, 3, 0, -1);
  }

  private static void hintsTakenBack() {
    Talk talk = new Talk();
    int hint = talk.hints(0, 3, 2);
    talk.replies(1, ParleyRoom.ACK, hint);
    talk.does(0, ParleyRoom.CANCEL, 3, 0);
    Check.same("canceled", talk.room.hint(0, 3), 0);
    Check.same("a cancel is no offer", talk.isOpen(2), false);
    Check.same("a cancel gives no right", talk.room.next(), -1);
    talk.room.tick(6);
    stands(talk, 0, 3, 0, -1);

    talk = new Talk();
    talk.replies(1, ParleyRoom.ACK, talk.hints(0, 3, 2));
    int instead = talk.hints(0, 3, 1);
    Check.same("another one in its place", talk.room.hint(0, 3), 1);
    talk.room.tick(2);
    Check.same("the first one's time", talk.room.hint(0, 3), 1);
    stands(talk, 0, 3, 0, -1);
    talk.replies(2, ParleyRoom.ACK, instead);
    Check.same("the other one's time is not yet", talk.room.hint(0, 3), 1);
    talk.room.tick(1);
    Check.same("the other one's time", talk.room.hint(0, 3), 0);
    stands(talk, 0, 3, 1, instead);
    int more = talk.hints(0, 4, 1);
    int yetMore = talk.hints(0, 5, 1);
    talk.hints(1, 4, 2);
    Check.same("several hints", talk.room.hint(0, 4) + talk.room.hint(0, 5), 2);
    Check.same("of several speakers", talk.room.hint(1, 4), 2);
    talk.replies(1, ParleyRoom.ACK, more);
    talk.replies(2, ParleyRoom.ACK, yetMore);
    talk.room.tick(6);
    stands(talk, 0, 4, 1, more);
    stands(talk, 0, 5, 1, yetMore);
    stands(talk, 1, 4, 0, -1);
  }

  private static void silence() {
    Talk talk = new Talk();
    talk.room.strict(true);
    talk.room.deafen(3, 1);
    int claim = talk.does(0, ParleyRoom.ASSERT, 3, 2, Talk.to(1, 2, 3), -1);
    talk.replies(2, ParleyRoom.ACK, claim);
    talk.room.tick(3);
    stands(talk, 1, 3, 0, -1);
    talk.room.tick(1);
    stands(talk, 1, 3, 2, claim);
    stands(talk, 2, 3, 2, claim);
    stands(talk, 3, 3, 0, -1);
    stands(talk, 0, 3, 2, claim);
    talk.asks(0, 4, 1);
    int answer = talk.answers(1, 1);
    talk.room.tick(5);
    stands(talk, 0, 4, 1, answer);
    Check.same("by silence nobody lies", talk.room.lies(0), 0);
    talk.does(1, ParleyRoom.RETRACT, 3, 0);
    talk.room.tick(12);
    stands(talk, 1, 3, 0, -1);
  }

  private static void silenceThatDoesNotCount() {
    Talk talk = new Talk();
    talk.asserts(0, 3, 2);
    talk.room.tick(5);
    talk.room.strict(true);
    talk.room.tick(5);
    stands(talk, 1, 3, 0, -1);

    talk = new Talk();
    int claim = talk.asserts(0, 3, 2);
    talk.room.tick(4);
    talk.room.strict(true);
    talk.room.tick(1);
    stands(talk, 1, 3, 2, claim);

    talk = new Talk();
    talk.room.strict(true);
    talk.asserts(0, 3, 2);
    int own = talk.asserts(1, 3, 1);
    talk.does(0, ParleyRoom.ASSERT, 3, 1, 2, -1);
    talk.room.tick(5);
    stands(talk, 1, 3, 1, own);
    stands(talk, 2, 3, 1, own);
    stands(talk, 3, 3, 1, own);

    talk = new Talk();
    talk.room.strict(true);
    talk.asserts(0, 3, 2);
    talk.does(0, ParleyRoom.RETRACT, 3, 0);
    talk.hints(0, 4, 1);
    talk.room.tick(8);
    stands(talk, 1, 3, 0, -1);
    stands(talk, 1, 4, 0, -1);

    talk = new Talk();
    talk.room.strict(true);
    talk.asks(1, 4, 0);
    talk.answers(0, 0);
    talk.room.tick(8);
    stands(talk, 1, 4, 0, -1);
  }

  /** The one who claimed still is committed, though by another turn; the first claim counts. */
  private static void silenceInOrder() {
    Talk talk = new Talk();
    talk.room.strict(true);
    int claim = talk.does(0, ParleyRoom.ASSERT, 3, 2, Talk.to(1), -1);
    int again = talk.asserts(0, 3, 2);
    talk.room.tick(4);
    stands(talk, 1, 3, 2, claim);
    stands(talk, 2, 3, 0, -1);
    talk.room.tick(1);
    stands(talk, 1, 3, 2, claim);
    stands(talk, 2, 3, 2, again);
    stands(talk, 3, 3, 2, again);
  }

  private static void silenceHeardLate() {
    Talk talk = new Talk();
    talk.room.strict(true);
    talk.room.knows(0, 2, 1, false);
    talk.room.knows(3, 3, 0, true);
    talk.room.deafen(2, 1);
    int claim = talk.asserts(0, 3, 2);
    talk.room.tick(2);
    talk.replies(0, ParleyRoom.REPEAT, claim);
    talk.room.tick(2);
    stands(talk, 3, 3, 2, claim);
    stands(talk, 1, 3, 0, -1);
    talk.room.tick(1);
    stands(talk, 1, 3, 0, -1);
    talk.room.tick(1);
    stands(talk, 1, 3, 2, claim);
    Check.same("repeated at 3, heard at 5", talk.room.heard(claim, 2), ParleyRoom.HEARD);
    talk.room.tick(2);
    stands(talk, 2, 3, 0, -1);
    talk.room.tick(1);
    stands(talk, 2, 3, 2, claim);
  }

  private static void reasons() {
    Talk talk = new Talk();
    talk.asserts(0, 3, 2);
    talk.asserts(0, 4, 1);
    Check.same("without a reason", talk.room.isSupported(0, 3), false);
    int reason = talk.does(0, ParleyRoom.BECAUSE, 3, 5);
    stands(talk, 0, 5, 1, reason);
    Check.same("with a reason", talk.room.isSupported(0, 3), true);
    Check.same("the reason itself", talk.room.isSupported(0, 5), false);
    Check.same("another atom", talk.room.isSupported(0, 4), false);
    Check.same("another speaker", talk.room.isSupported(1, 3), false);
    talk.asserts(0, 5, 2);
    Check.same("the reason is not so", talk.room.isSupported(0, 3), false);
    talk.does(0, ParleyRoom.BECAUSE, 3, 4);
    Check.same("another reason", talk.room.isSupported(0, 3), true);
    talk.does(0, ParleyRoom.RETRACT, 4, 0);
    Check.same("the reason is taken back", talk.room.isSupported(0, 3), false);
    talk.asserts(0, 5, 1);
    Check.same("the first reason is so again", talk.room.isSupported(0, 3), true);
    talk.does(0, ParleyRoom.RETRACT, 3, 0);
    Check.same("not committed", talk.room.isSupported(0, 3), false);
    talk.asserts(0, 3, 1);
    Check.same("committed anew, to the contrary", talk.room.isSupported(0, 3), true);
    talk.asserts(1, 3, 1);
    talk.asserts(1, 5, 1);
    Check.same("another one's reason", talk.room.isSupported(1, 3), false);
    talk.does(1, ParleyRoom.BECAUSE, 3, 0);
    talk.does(1, ParleyRoom.BECAUSE, 0, 9);
    Check.same("the first atom as a reason", talk.room.isSupported(1, 3), true);
    Check.same("a reason for the first atom", talk.room.isSupported(1, 0), true);
    talk.does(1, ParleyRoom.RETRACT, 9, 0);
    Check.same("the last atom taken back", talk.room.isSupported(1, 0), false);
  }

  private static void lies() {
    Talk talk = new Talk();
    talk.room.believe(0, 3, 2);
    int claim = talk.asserts(0, 3, 1);
    Check.same("assert", talk.room.lies(0), 1);
    talk.asserts(0, 3, 1);
    Check.same("each time anew", talk.room.lies(0), 2);
    talk.does(0, ParleyRoom.ASSERT, 4, 1, 14, 3);
    Check.same("given, committed to it already", talk.room.lies(0), 2);
    talk.room.believe(0, 5, 2);
    talk.does(0, ParleyRoom.ASSERT, 4, 1, 14, 5);
    Check.same("given", talk.room.lies(0), 3);
    talk.room.believe(0, 6, 2);
    talk.does(0, ParleyRoom.BECAUSE, 4, 6);
    Check.same("because", talk.room.lies(0), 4);
    talk.room.believe(0, 7, 1);
    talk.asks(1, 7, 0);
    talk.answers(0, 2);
    Check.same("answer", talk.room.lies(0), 5);
    talk.room.believe(1, 3, 2);
    talk.room.believe(2, 3, 1);
    talk.replies(1, ParleyRoom.CONCEDE, claim);
    Check.same("concede", talk.room.lies(1), 1);
    talk.replies(2, ParleyRoom.DENY, claim);
    Check.same("deny", talk.room.lies(2), 1);
    Check.same("of nobody else", talk.room.lies(0) + talk.room.lies(3), 5);
    talk.does(3, ParleyRoom.ASK, 9, 0, 1, 8);
    talk.room.believe(3, 8, 2);
    talk.does(3, ParleyRoom.RETRACT, 8, 0);
    talk.does(3, ParleyRoom.ASK, 9, 0, 1, 8);
    Check.same("given in an ask", talk.room.lies(3), 1);
    talk.room.believe(3, 0, 1);
    talk.does(3, ParleyRoom.ASSERT, 0, 2, 1, 0);
    Check.same("given as it believes, then not", talk.room.lies(3), 2);
    talk.does(3, ParleyRoom.RETRACT, 0, 0);
    talk.room.believe(3, 0, 2);
    talk.does(3, ParleyRoom.ASSERT, 0, 1, 1, 0);
    Check.same("given and then asserted, twice", talk.room.lies(3), 4);
  }

  private static void noLies() {
    Talk talk = new Talk();
    talk.room.believe(0, 3, 1);
    int claim = talk.asserts(0, 3, 1);
    talk.asserts(0, 4, 1);
    talk.room.believe(0, 3, 2);
    Check.same("as it believed then", talk.room.lies(0), 0);
    talk.does(0, ParleyRoom.RETRACT, 3, 0);
    talk.hints(0, 3, 1);
    Check.same("a hint", talk.room.lies(0), 0);
    talk.room.believe(1, 3, 2);
    talk.replies(1, ParleyRoom.DENY, claim);
    Check.same("deny as it believes", talk.room.lies(1), 0);
    talk.asks(1, 3, 0);
    talk.answers(0, 0);
    Check.same("not knowing", talk.room.lies(0), 0);
    talk.asserts(2, 7, 2);
    talk.room.believe(0, 7, 2);
    talk.room.believe(0, 8, 2);
    talk.does(0, ParleyRoom.ASSERT, 8, 1, 4, 7);
    Check.same("challenged", talk.room.lies(0), 0);
    talk.room.tick(20);

    talk = new Talk();
    talk.room.believe(0, 3, 1);
    talk.room.believe(1, 4, 1);
    talk.room.strict(true);
    int hint = talk.hints(0, 3, 2);
    claim = talk.asserts(0, 4, 2);
    talk.replies(1, ParleyRoom.ACK, hint);
    talk.room.tick(6);
    stands(talk, 0, 3, 2, hint);
    stands(talk, 1, 4, 2, claim);
    Check.same("a hint that hardens", talk.room.lies(0), 0);
    Check.same("silence", talk.room.lies(1), 0);
  }

  private static void arguments() {
    ParleyRoom room = new ParleyRoom();
    int[][] wrong = {{-1, 0}, {4, 0}, {0, -1}, {0, 10}, {4, 10}};
    for (int[] pair : wrong) {
      String what = " of " + pair[0] + ", " + pair[1];
      Check.noSuch(room, "stand" + what, () -> room.stand(pair[0], pair[1]));
      Check.noSuch(room, "standBy" + what, () -> room.standBy(pair[0], pair[1]));
      Check.noSuch(room, "standAnew" + what, () -> room.standAnew(pair[0], pair[1]));
      Check.noSuch(room, "hint" + what, () -> room.hint(pair[0], pair[1]));
      Check.noSuch(room, "isSupported" + what, () -> room.isSupported(pair[0], pair[1]));
    }
    Check.noSuch(room, "lies of -1", () -> room.lies(-1));
    Check.noSuch(room, "lies of 4", () -> room.lies(4));
  }
}
