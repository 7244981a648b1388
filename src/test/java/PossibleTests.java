/** Promises 8 and 9: which turns are possible by rules that are not strict, and limits of say. */
final class PossibleTests {
  private PossibleTests() {}

  static void run() {
    oneTurnATick();
    hundredTurns();
    questions();
    hearing();
    claims();
    ownTurns();
    commitments();
    offers();
    offerReplies();
  }

  private static void may(Talk talk, String what, boolean due, int speaker, int act, int about) {
    may(talk, what, due, speaker, act, about, 1);
  }

  private static void may(
      Talk talk, String what, boolean due, int speaker, int act, int about, int value) {
    Check.same(what + ": can", talk.can(speaker, act, about, value), due);
    if (!due) {
      Check.notNow(talk.room, what, () -> talk.say(speaker, act, about, value));
    }
  }

  private static void oneTurnATick() {
    Talk talk = new Talk();
    Check.same("first turn", talk.say(2, ParleyRoom.ASSERT, 0, 1), 0);
    may(talk, "a second turn", false, 2, ParleyRoom.ASSERT, 1);
    Check.outOfRange(talk.room, "a second turn that is wrong",
        () -> talk.room.say(2, 16, 0, 1, 1, -1));
    Check.same("turn of another", talk.say(1, ParleyRoom.ASSERT, 0, 1), 1);
    Check.same("it is SAID", talk.state(1), ParleyRoom.SAID);
    talk.room.tick(1);
    may(talk, "a turn in the next tick", true, 2, ParleyRoom.ASSERT, 1);
    talk.say(2, ParleyRoom.ASSERT, 1, 1);
    talk.room.tick(1);
    Check.same("of the others it is the one that is done", talk.state(2), ParleyRoom.DONE);
    talk.say(0, ParleyRoom.ACK, 2, 0);
    may(talk, "a turn behind an ack", false, 0, ParleyRoom.ASSERT, 1);
  }

  private static void hundredTurns() {
    Talk talk = new Talk();
    for (int i = 0; i < 25; i++) {
      for (int speaker = 0; speaker < 4; speaker++) {
        Check.same("turn", talk.say(speaker, ParleyRoom.HINT, 0, 1), 4 * i + speaker);
      }
      talk.room.tick(1);
    }
    Check.same("100 turns", talk.room.said(), 100);
    may(talk, "turn 101", false, 0, ParleyRoom.ASSERT, 0);
    Check.outOfRange(talk.room, "turn 101 that is wrong",
        () -> talk.room.say(0, ParleyRoom.ASSERT, 10, 1, 2, -1));
    Check.same("still 100 turns", talk.room.said(), 100);
  }

  private static void questions() {
    Talk talk = new Talk();
    may(talk, "answer without a question", false, 1, ParleyRoom.ANSWER, 0);
    may(talk, "drop without a question", false, 0, ParleyRoom.DROP, 0);
    talk.asks(0, 0, 1);
    may(talk, "answer by the one asked", true, 1, ParleyRoom.ANSWER, 0);
    may(talk, "answer by another", false, 2, ParleyRoom.ANSWER, 0);
    may(talk, "drop by the one who asked", true, 0, ParleyRoom.DROP, 0);
    may(talk, "drop by the one asked", false, 1, ParleyRoom.DROP, 0);
    talk.asks(2, 0, 3);
    may(talk, "answer below the top", false, 1, ParleyRoom.ANSWER, 0);
    may(talk, "drop below the top", false, 0, ParleyRoom.DROP, 0);
    may(talk, "answer at the top", true, 3, ParleyRoom.ANSWER, 0);
    for (int i = 0; i < 3; i++) {
      talk.asks(0, 0, 1);
    }
    Check.same("a sixth", talk.room.can(2, ParleyRoom.ASK, 0, 0, 1, -1), true);
    talk.asks(0, 0, 1);
    Check.same("a seventh", talk.room.can(2, ParleyRoom.ASK, 0, 0, 1, -1), false);
    Check.notNow(talk.room, "a seventh", () -> talk.room.say(2, ParleyRoom.ASK, 0, 0, 1, -1));
  }

  private static void hearing() {
    Talk talk = new Talk();
    talk.room.deafen(1, 1);
    int turn = talk.does(0, ParleyRoom.HINT, 0, 1, Talk.to(1, 2), -1);
    may(talk, "ack of what is heard", true, 2, ParleyRoom.ACK, turn);
    may(talk, "clarify of what is heard", false, 2, ParleyRoom.CLARIFY, turn);
    may(talk, "ack of what is missed", false, 1, ParleyRoom.ACK, turn);
    may(talk, "clarify of what is missed", true, 1, ParleyRoom.CLARIFY, turn);
    may(talk, "ack of what was to others", false, 3, ParleyRoom.ACK, turn);
    may(talk, "clarify of what was to others", false, 3, ParleyRoom.CLARIFY, turn);
    may(talk, "ack of one's own", false, 0, ParleyRoom.ACK, turn);
    talk.replies(2, ParleyRoom.ACK, turn);
    may(talk, "ack of what is taken", false, 2, ParleyRoom.ACK, turn);
    int said = talk.say(0, ParleyRoom.HINT, 0, 1);
    may(talk, "ack of what is only said", false, 2, ParleyRoom.ACK, said);
    talk.room.tick(1);
    may(talk, "ack of an ack", true, 0, ParleyRoom.ACK, 1);
  }

  private static void claims() {
    Talk talk = new Talk();
    int hint = talk.hints(0, 0, 1);
    may(talk, "concede a hint", false, 1, ParleyRoom.CONCEDE, hint);
    may(talk, "deny a hint", false, 1, ParleyRoom.DENY, hint);
    talk.room.deafen(3, 20);
    int claim = talk.does(0, ParleyRoom.ASSERT, 1, 2, Talk.to(1, 3), -1);
    for (int act : new int[] {ParleyRoom.CONCEDE, ParleyRoom.DENY}) {
      may(talk, "of a claim that is heard", true, 1, act, claim);
      may(talk, "of a claim that is missed", false, 3, act, claim);
      may(talk, "of a claim to others", false, 2, act, claim);
      may(talk, "of one's own claim", false, 0, act, claim);
    }
    talk.replies(1, ParleyRoom.ACK, claim);
    may(talk, "concede a claim that is taken", true, 1, ParleyRoom.CONCEDE, claim);
    may(talk, "deny a claim that is taken", true, 1, ParleyRoom.DENY, claim);
    talk.asks(1, 1, 0);
    int unknown = talk.answers(0, 0);
    may(talk, "deny not knowing", false, 1, ParleyRoom.DENY, unknown);
    talk.asks(1, 1, 0);
    int answer = talk.answers(0, 2);
    may(talk, "deny an answer", true, 1, ParleyRoom.DENY, answer);
    int doubted = talk.does(2, ParleyRoom.ASSERT, 5, 1, Talk.to(0, 1), 1);
    Check.same("it is challenged", talk.state(doubted), ParleyRoom.CHALLENGED);
    may(talk, "deny what is challenged", false, 1, ParleyRoom.DENY, doubted);
    may(talk, "ack what is challenged", false, 1, ParleyRoom.ACK, doubted);
  }

  private static void ownTurns() {
    Talk talk = new Talk();
    talk.room.deafen(1, 1);
    int missed = talk.hints(0, 0, 1);
    int heard = talk.hints(0, 0, 1);
    may(talk, "repeat what somebody missed", true, 0, ParleyRoom.REPEAT, missed);
    may(talk, "repeat what all heard", false, 0, ParleyRoom.REPEAT, heard);
    may(talk, "repeat another one's", false, 1, ParleyRoom.REPEAT, missed);
    talk.room.deafen(1, 1);
    talk.say(2, ParleyRoom.HINT, 0, 1);
    talk.hints(0, 1, 1);
    may(talk, "repeat what is lost", false, 2, ParleyRoom.REPEAT, 2);
  }

  private static void commitments() {
    Talk talk = new Talk();
    may(talk, "because of nothing", false, 0, ParleyRoom.BECAUSE, 4, 5);
    may(talk, "retract nothing", false, 0, ParleyRoom.RETRACT, 4);
    may(talk, "cancel nothing", false, 0, ParleyRoom.CANCEL, 4);
    talk.asserts(0, 4, 2);
    talk.hints(0, 5, 2);
    may(talk, "because", true, 0, ParleyRoom.BECAUSE, 4, 5);
    may(talk, "because the other way round", false, 0, ParleyRoom.BECAUSE, 5, 4);
    may(talk, "retract", true, 0, ParleyRoom.RETRACT, 4);
    may(talk, "retract a hint", false, 0, ParleyRoom.RETRACT, 5);
    may(talk, "cancel", true, 0, ParleyRoom.CANCEL, 5);
    may(talk, "cancel a commitment", false, 0, ParleyRoom.CANCEL, 4);
    may(talk, "because of another one's", false, 1, ParleyRoom.BECAUSE, 4, 5);
    may(talk, "retract another one's", false, 1, ParleyRoom.RETRACT, 4);
    may(talk, "cancel another one's", false, 1, ParleyRoom.CANCEL, 5);
  }

  private static void mayOffer(Talk talk, boolean due, int goods, int forGoods) {
    Check.same("offer " + goods + " for " + forGoods,
        talk.room.can(0, ParleyRoom.OFFER, goods, forGoods, 2, 5), due);
    if (!due) {
      Check.notNow(talk.room, "offer " + goods + " for " + forGoods,
          () -> talk.room.say(0, ParleyRoom.OFFER, goods, forGoods, 2, 5));
    }
  }

  private static void offers() {
    Talk talk = new Talk();
    talk.room.give(0, 0);
    talk.room.give(1, 0);
    talk.room.give(6, 1);
    talk.room.give(7, 2);
    mayOffer(talk, true, 3, 64);
    mayOffer(talk, true, 3, 0);
    mayOffer(talk, true, 0, 64);
    mayOffer(talk, false, 7, 64);
    mayOffer(talk, false, 3, 128);
    mayOffer(talk, false, 64, 0);
    mayOffer(talk, false, 0, 1);
    mayOffer(talk, false, 1, 1);
  }

  private static void offerReplies() {
    Talk talk = new Talk();
    talk.room.give(0, 0);
    talk.room.deafen(1, 1);
    int missed = talk.offers(0, 1, 0, 1, 9);
    int claim = talk.asserts(0, 0, 1);
    for (int act : new int[] {ParleyRoom.ACCEPT, ParleyRoom.REJECT}) {
      may(talk, "an offer that is missed", false, 1, act, missed);
      may(talk, "a claim", false, 1, act, claim);
    }
    int offer = talk.offers(0, 1, 0, 1, 9);
    for (int act : new int[] {ParleyRoom.ACCEPT, ParleyRoom.REJECT}) {
      may(talk, "an offer that is heard", true, 1, act, offer);
      may(talk, "an offer to another", false, 2, act, offer);
      may(talk, "one's own offer", false, 0, act, offer);
    }
    talk.replies(1, ParleyRoom.ACK, offer);
    may(talk, "accept an offer that is taken", true, 1, ParleyRoom.ACCEPT, offer);
    talk.room.give(0, 3);
    may(talk, "accept what is not there any more", true, 1, ParleyRoom.ACCEPT, offer);
    talk.replies(1, ParleyRoom.REJECT, offer);
    may(talk, "accept what is rejected", false, 1, ParleyRoom.ACCEPT, offer);
    may(talk, "reject what is rejected", false, 1, ParleyRoom.REJECT, offer);
  }
}
