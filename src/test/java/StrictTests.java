/** Promises 7 to 9: what strict rules permit. */
final class StrictTests {
  private StrictTests() {}

  static void run() {
    topQuestion();
    quarrel();
    questionBeforeQuarrel();
    alwaysPermitted();
    noLongerPermitted();
  }

  private static void may(
      Talk talk, String what, boolean due, int speaker, int act, int about, int value) {
    Check.same(what + ": can", talk.can(speaker, act, about, value), due);
    if (!due) {
      Check.notNow(talk.room, what, () -> talk.say(speaker, act, about, value));
    }
  }

  private static void topQuestion() {
    Talk talk = new Talk();
    int claim = talk.asserts(0, 2, 1);
    talk.asserts(1, 6, 1);
    talk.asks(0, 3, 1);
    may(talk, "by loose rules", true, 1, ParleyRoom.ASSERT, 4, 1);
    talk.room.strict(true);
    may(talk, "answer", true, 1, ParleyRoom.ANSWER, 0, 0);
    may(talk, "assert its atom", true, 1, ParleyRoom.ASSERT, 3, 2);
    may(talk, "assert another atom", false, 1, ParleyRoom.ASSERT, 4, 1);
    may(talk, "hint its atom", false, 1, ParleyRoom.HINT, 3, 1);
    may(talk, "deny", false, 1, ParleyRoom.DENY, claim, 0);
    may(talk, "concede", false, 1, ParleyRoom.CONCEDE, claim, 0);
    may(talk, "retract", false, 1, ParleyRoom.RETRACT, 6, 0);
    may(talk, "because", false, 1, ParleyRoom.BECAUSE, 6, 3);
    Check.same("ask back", talk.room.can(1, ParleyRoom.ASK, 3, 0, 1, -1), false);
    may(talk, "one who was not asked", true, 2, ParleyRoom.ASSERT, 4, 1);
    may(talk, "the one who asked", true, 0, ParleyRoom.DROP, 0, 0);
    talk.asks(0, 5, 2);
    may(talk, "below the top", true, 1, ParleyRoom.ASSERT, 4, 1);
    may(talk, "at the top", false, 2, ParleyRoom.ASSERT, 4, 1);
    talk.answers(2, 0);
    may(talk, "again at the top", false, 1, ParleyRoom.ASSERT, 4, 1);
    talk.answers(1, 0);
    may(talk, "without a question", true, 1, ParleyRoom.ASSERT, 4, 1);
  }

  private static void quarrel() {
    Talk talk = new Talk();
    talk.asserts(0, 7, 1);
    talk.hints(0, 8, 1);
    talk.quarrel(2);
    talk.quarrel(3);
    may(talk, "by loose rules", true, 0, ParleyRoom.ASSERT, 4, 1);
    talk.room.strict(true);
    may(talk, "because of the atom", true, 0, ParleyRoom.BECAUSE, 2, 9);
    may(talk, "because of the other quarrel's", true, 0, ParleyRoom.BECAUSE, 3, 9);
    may(talk, "because of another atom", false, 0, ParleyRoom.BECAUSE, 7, 2);
    may(talk, "retract the atom", true, 0, ParleyRoom.RETRACT, 2, 0);
    may(talk, "retract the other quarrel's", true, 0, ParleyRoom.RETRACT, 3, 0);
    may(talk, "retract another atom", false, 0, ParleyRoom.RETRACT, 7, 0);
    may(talk, "assert the atom", false, 0, ParleyRoom.ASSERT, 2, 1);
    may(talk, "cancel", false, 0, ParleyRoom.CANCEL, 8, 0);
    may(talk, "hint", false, 0, ParleyRoom.HINT, 2, 1);
    Check.same("ask", talk.room.can(0, ParleyRoom.ASK, 2, 0, 2, -1), false);
    may(talk, "the one who denied", true, 1, ParleyRoom.ASSERT, 4, 1);
    talk.does(0, ParleyRoom.RETRACT, 2, 0);
    may(talk, "retract what is over", false, 0, ParleyRoom.ASSERT, 4, 1);
    talk.does(0, ParleyRoom.BECAUSE, 3, 9);
    may(talk, "without a quarrel", true, 0, ParleyRoom.ASSERT, 4, 1);
  }

  private static void questionBeforeQuarrel() {
    Talk talk = new Talk();
    talk.quarrel(2);
    talk.asks(2, 5, 0);
    talk.room.strict(true);
    may(talk, "because, being asked", false, 0, ParleyRoom.BECAUSE, 2, 9);
    may(talk, "answer in a quarrel", true, 0, ParleyRoom.ANSWER, 0, 1);
    may(talk, "assert in a quarrel, being asked", true, 0, ParleyRoom.ASSERT, 5, 1);
    talk.answers(0, 1);
    may(talk, "because, not being asked", true, 0, ParleyRoom.BECAUSE, 2, 9);
  }

  private static void alwaysPermitted() {
    Talk talk = new Talk();
    int heard = talk.asserts(2, 7, 1);
    talk.room.deafen(0, 1);
    int missed = talk.asserts(2, 8, 1);
    talk.room.deafen(3, 1);
    int own = talk.hints(0, 6, 1);
    talk.quarrel(2);
    talk.asks(1, 5, 0);
    talk.room.strict(true);
    may(talk, "ack, being asked", true, 0, ParleyRoom.ACK, heard, 0);
    may(talk, "clarify, being asked", true, 0, ParleyRoom.CLARIFY, missed, 0);
    may(talk, "repeat, being asked", true, 0, ParleyRoom.REPEAT, own, 0);
    talk.does(1, ParleyRoom.DROP, 0, 0);
    may(talk, "ack in a quarrel", true, 0, ParleyRoom.ACK, heard, 0);
    may(talk, "clarify in a quarrel", true, 0, ParleyRoom.CLARIFY, missed, 0);
    may(talk, "repeat in a quarrel", true, 0, ParleyRoom.REPEAT, own, 0);
  }

  private static void noLongerPermitted() {
    Talk talk = new Talk();
    talk.asks(0, 3, 1);
    int turn = talk.say(1, ParleyRoom.ASSERT, 4, 1);
    talk.room.strict(true);
    talk.room.tick(1);
    Check.same("strict before the tick", talk.state(turn), ParleyRoom.VOID);
    Check.same("VOID is not committed", talk.room.stand(1, 4), 0);
    Check.same("VOID is not heard", talk.room.heard(turn, 0), 0);
    Check.same("VOID has no clock", talk.room.turn(turn, 7), -1);
    talk.room.strict(false);
    turn = talk.asserts(1, 4, 1);
    Check.same("not strict", talk.state(turn), ParleyRoom.DONE);
  }
}
