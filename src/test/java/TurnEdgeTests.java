import java.util.function.Supplier;

/** What the section "Turns" tells of when a turn is possible and permitted, edge by edge. */
final class TurnEdgeTests {
  private static final String TURNS = "Turns";
  private static final int YES = ParleyRoom.YES;
  private static final int NO = ParleyRoom.NO;
  private static final int NONE = ParleyRoom.NONE;

  private TurnEdgeTests() {}

  static void run() {
    Edges.of(TURNS, "turns are numbered from 0, at most 100.", TurnEdgeTests::hundredTurns);
    Edges.of(TURNS, "A turn is said by a speaker, in the language that it speaks as it says it",
        TurnEdgeTests::languageAsItIsSaid);
    Edges.of(TURNS, "A speaker can say one turn a tick.", TurnEdgeTests::oneTurnATick);
    questions();
    replies();
    others();
    strict();
  }

  private static void hundredTurns() {
    Supplier<ParleyRoom> almost = () -> {
      Talk talk = new Talk();
      for (int i = 0; i < 99; i++) {
        talk.hints(i % 4, 0, YES);
      }
      return talk.room;
    };
    Saying saying = Saying.of(3, ParleyRoom.ASSERT, 9, NO, 7, NONE);
    Check.same("the first number", saying.say(new ParleyRoom()), 0);
    ParleyRoom room = almost.get();
    Check.same("99 turns", room.said(), 99);
    Check.same("the last number", saying.say(room), 99);
    Check.same("100 turns", room.said(), 100);
    Refusals.fine(almost, "the hundredth", saying);
    Refusals.notNow(Scenes.FULL, "one more", saying);
    for (int act = 0; act < 16; act++) {
      Check.same("act " + act, Saying.inRange(act).can(Scenes.FULL.get()), false);
    }
    room.tick(1);
    Check.same("the hundredth is done", room.stand(3, 9), NO);
  }

  private static void languageAsItIsSaid() {
    Talk talk = new Talk();
    talk.room.knows(0, 3, 1, false);
    int turn = talk.say(0, ParleyRoom.HINT, 0, YES);
    talk.room.knows(0, 3, 0, false);
    talk.room.tick(1);
    Check.same("not that of the tick", talk.room.heard(turn, 1), ParleyRoom.MISSED);
  }

  private static void oneTurnATick() {
    for (int act : new int[] {ParleyRoom.ASSERT, ParleyRoom.ACK}) {
      Supplier<ParleyRoom> said = () -> {
        ParleyRoom room = Scenes.claimed().get();
        room.say(1, act, 0, YES, 1, NONE);
        return room;
      };
      Saying saying = Saying.of(1, ParleyRoom.HINT, 0, YES, 1, NONE);
      Refusals.notNow(said, "a second one", saying);
      Refusals.notNow(said, "a second one, an ack", saying.act(ParleyRoom.ACK));
      Refusals.fine(said, "that of another", saying.by(2));
      Refusals.fine(() -> behindATick(said.get()), "behind a tick", saying);
    }
    Supplier<ParleyRoom> lost = () -> {
      ParleyRoom room = Scenes.claimed().get();
      room.say(0, ParleyRoom.HINT, 0, YES, 2, NONE);
      room.say(1, ParleyRoom.HINT, 0, YES, 1, NONE);
      return behindATick(room);
    };
    Refusals.fine(lost, "behind a LOST one", Saying.of(1, ParleyRoom.HINT, 0, YES, 1, NONE));
  }

  private static ParleyRoom behindATick(ParleyRoom room) {
    room.tick(1);
    return room;
  }

  // ---- questions

  private static void questions() {
    Edges.of(TURNS, "- ASK: fewer than 6 questions are open.", TurnEdgeTests::asks);
    Edges.of(TURNS, "ANSWER: the top question is to the speaker.", TurnEdgeTests::answers);
    Edges.of(TURNS, "DROP: the top question is by it.", TurnEdgeTests::drops);
  }

  private static void asks() {
    Saying ask = Saying.of(2, ParleyRoom.ASK, 9, 0, 1, NONE);
    for (int open = 0; open <= 6; open++) {
      Refusals.may(Scenes.asked(open), open + " open", open < 6, ask);
    }
    Supplier<ParleyRoom> oneLess = () -> {
      ParleyRoom room = Scenes.asked(6).get();
      room.say(1, ParleyRoom.ANSWER, 0, 0, 1, NONE);
      return behindATick(room);
    };
    Refusals.fine(oneLess, "6 were open", ask);
  }

  private static void answers() {
    Saying answer = Saying.of(1, ParleyRoom.ANSWER, 0, YES, 1, NONE);
    Refusals.notNow(Scenes.NEW, "none is open", answer);
    Refusals.fine(Scenes.asked(1), "one is open", answer);
    Refusals.fine(Scenes.asked(6), "six are open", answer);
    Refusals.notNow(Scenes.asked(1), "asked by it", answer.by(0).to(2));
    Refusals.notNow(Scenes.asked(1), "to another", answer.by(2));
    Refusals.notNow(TurnEdgeTests::askedAnother, "below the top", answer);
    Refusals.fine(TurnEdgeTests::askedAnother, "at the top", answer.by(2));
  }

  /** A question to 1, and on top of it one by 3 to 2. */
  private static ParleyRoom askedAnother() {
    Talk talk = new Talk();
    talk.asks(0, 0, 1);
    talk.asks(3, 0, 2);
    return talk.room;
  }

  private static void drops() {
    Saying drop = Saying.of(0, ParleyRoom.DROP, 0, 0, 2, NONE);
    Refusals.notNow(Scenes.NEW, "none is open", drop);
    Refusals.fine(Scenes.asked(1), "one is open", drop);
    Refusals.fine(Scenes.asked(6), "six are open", drop);
    Refusals.notNow(Scenes.asked(1), "to it", drop.by(1).to(1));
    Refusals.notNow(Scenes.asked(1), "by another", drop.by(2));
    Refusals.notNow(TurnEdgeTests::askedAnother, "below the top", drop);
    Refusals.fine(TurnEdgeTests::askedAnother, "at the top", drop.by(3));
  }

  // ---- replies to turns

  private enum Is { NOTHING, MISSED, COMING, HEARD, TAKEN, SAID, LOST, CHALLENGED, VOID }

  private static final int CLAIM = 2;

  /** Turn 2 is a claim by speaker 0 about atom 3, and for speaker 1 it is so. */
  private static ParleyRoom claim(Is is) {
    Talk talk = new Talk();
    talk.asserts(1, 5, NO);
    talk.asks(2, 8, 0);
    switch (is) {
      case NOTHING:
        talk.does(0, ParleyRoom.ASSERT, 3, YES, Talk.to(2), NONE);
        break;
      case MISSED:
        talk.room.deafen(1, 1);
        talk.asserts(0, 3, YES);
        break;
      case COMING:
        talk.room.knows(0, 2, 1, false);
        talk.room.knows(2, 3, 0, true);
        talk.asserts(0, 3, YES);
        break;
      case HEARD:
        talk.asserts(0, 3, YES);
        break;
      case TAKEN:
        talk.asserts(0, 3, YES);
        talk.replies(1, ParleyRoom.ACK, CLAIM);
        break;
      case SAID:
        talk.say(0, ParleyRoom.ASSERT, 3, YES);
        break;
      case LOST:
        talk.room.tick(3);
        talk.room.power(3, 9);
        talk.say(0, ParleyRoom.ASSERT, 3, YES);
        talk.hints(3, 0, YES);
        break;
      case CHALLENGED:
        talk.does(0, ParleyRoom.ASSERT, 3, YES, 14, 5);
        break;
      default:
        talk.say(0, ParleyRoom.ASSERT, 3, YES);
        talk.room.strict(true);
        talk.room.tick(1);
        talk.room.strict(false);
        break;
    }
    return talk.room;
  }

  private static void replies() {
    Edges.of(TURNS, "- ACK: the turn is DONE, and HEARD by the speaker.", TurnEdgeTests::acks);
    Edges.of(TURNS, "CLARIFY: it is DONE, and MISSED by it.", TurnEdgeTests::clarifies);
    Edges.of(TURNS, "REPEAT: it is the speaker's own, DONE, and MISSED by somebody.",
        TurnEdgeTests::repeats);
    Edges.of(TURNS, "CONCEDE, DENY: it is a claim, that is an ASSERT or an ANSWER with YES or NO"
        + " that is DONE, and HEARD or TAKEN by the speaker.", TurnEdgeTests::denials);
    Edges.of(TURNS, "ACCEPT, REJECT: it is an OFFER to the speaker that is open, HEARD or TAKEN by"
        + " it.", TurnEdgeTests::acceptances);
  }

  private static void states() {
    int[] states = {
      ParleyRoom.DONE, ParleyRoom.DONE, ParleyRoom.DONE, ParleyRoom.DONE, ParleyRoom.DONE,
      ParleyRoom.SAID, ParleyRoom.LOST, ParleyRoom.CHALLENGED, ParleyRoom.VOID
    };
    int[] heard = {
      0, ParleyRoom.MISSED, ParleyRoom.COMING, ParleyRoom.HEARD, ParleyRoom.TAKEN, 0, 0,
      ParleyRoom.HEARD, 0
    };
    for (Is is : Is.values()) {
      Check.same("a claim that is " + is, claim(is).turn(CLAIM, 6), states[is.ordinal()]);
      Check.same("heard, a claim that is " + is, claim(is).heard(CLAIM, 1), heard[is.ordinal()]);
    }
  }

  private static void mayReply(int act, Is... fine) {
    states();
    Saying reply = Saying.of(1, act, CLAIM, 0, 1, NONE);
    for (Is is : Is.values()) {
      boolean due = false;
      for (Is one : fine) {
        due |= one == is;
      }
      Refusals.may(() -> claim(is), "a claim that is " + is, due, reply);
    }
  }

  private static void acks() {
    mayReply(ParleyRoom.ACK, Is.HEARD);
  }

  private static void clarifies() {
    mayReply(ParleyRoom.CLARIFY, Is.MISSED);
  }

  private static void denials() {
    mayReply(ParleyRoom.CONCEDE, Is.HEARD, Is.TAKEN);
    mayReply(ParleyRoom.DENY, Is.HEARD, Is.TAKEN);
    for (int act : new int[] {ParleyRoom.CONCEDE, ParleyRoom.DENY}) {
      Saying reply = Saying.of(1, act, 1, 0, 1, NONE);
      Refusals.fine(() -> answered(YES), "an answer with YES", reply);
      Refusals.fine(() -> answered(NO), "an answer with NO", reply);
      Refusals.notNow(() -> answered(0), "an answer with 0", reply);
      Refusals.notNow(() -> answered(0), "a question", reply.by(0).to(2).about(0));
      Refusals.notNow(() -> answered(YES), "one's own", reply.by(0).to(2));
      Refusals.notNow(Scenes.FULL, "a hint", reply);
    }
  }

  /** Speaker 1 asks, and in turn 1 speaker 0 answers. */
  private static ParleyRoom answered(int value) {
    Talk talk = new Talk();
    talk.asks(1, 4, 0);
    talk.answers(0, value);
    return talk.room;
  }

  private static void repeats() {
    Saying repeat = Saying.of(0, ParleyRoom.REPEAT, CLAIM, 0, 2, NONE);
    states();
    for (Is is : Is.values()) {
      Refusals.may(() -> claim(is), "its own that is " + is, is == Is.MISSED, repeat);
    }
    Refusals.notNow(() -> claim(Is.MISSED), "not its own", repeat.by(1).to(1));
    Refusals.notNow(() -> claim(Is.MISSED), "not its own, heard", repeat.by(3).to(1));
  }

  private enum Offer {
    HEARD, TAKEN, MISSED, FOREIGN, TO_ANOTHER, SAID, LOST, VOID, REJECTED, ACCEPTED, OVERDUE,
    REPLACED, ANSWERED
  }

  /** Turn 0 is an offer by speaker 0, for speaker 1 it is so. */
  private static ParleyRoom offer(Offer is) {
    Talk talk = new Talk();
    talk.room.give(0, 0);
    talk.room.give(1, 1);
    if (is == Offer.MISSED) {
      talk.room.deafen(1, 1);
    }
    if (is == Offer.LOST) {
      talk.room.power(3, 1);
      talk.say(3, ParleyRoom.HINT, 0, YES);
    }
    if (is == Offer.FOREIGN) {
      talk.room.knows(0, 2, 1, false);
    }
    int one = is == Offer.TO_ANOTHER ? 2 : 1;
    int turn = talk.room.say(0, ParleyRoom.OFFER, 1, is == Offer.TO_ANOTHER ? 0 : 2,
        Talk.to(one), 3);
    if (is == Offer.VOID) {
      talk.room.give(0, 3);
    }
    if (is != Offer.SAID) {
      talk.room.tick(1);
      goOn(talk, is, turn);
    }
    return talk.room;
  }

  private static void goOn(Talk talk, Offer is, int turn) {
    switch (is) {
      case TAKEN:
        talk.replies(1, ParleyRoom.ACK, turn);
        break;
      case REJECTED:
        talk.replies(1, ParleyRoom.REJECT, turn);
        break;
      case ACCEPTED:
        talk.replies(1, ParleyRoom.ACCEPT, turn);
        break;
      case OVERDUE:
        talk.room.tick(3);
        break;
      case REPLACED:
        talk.offers(0, 1, 0, 1, 3);
        break;
      case ANSWERED:
        talk.offers(1, 2, 0, 0, 3);
        break;
      default:
        break;
    }
  }

  private static void acceptances() {
    for (int act : new int[] {ParleyRoom.ACCEPT, ParleyRoom.REJECT}) {
      for (Offer is : Offer.values()) {
        int turn = is == Offer.LOST ? 1 : 0;
        boolean due = is == Offer.HEARD || is == Offer.TAKEN;
        Refusals.may(() -> offer(is), "an offer that is " + is, due,
            Saying.of(1, act, turn, 0, 1, NONE));
      }
      Saying reply = Saying.of(0, act, 0, 0, 2, NONE);
      Refusals.notNow(() -> offer(Offer.HEARD), "one's own offer", reply);
      Refusals.notNow(() -> offer(Offer.HEARD), "another one's offer", reply.by(3));
      Refusals.notNow(() -> claim(Is.HEARD), "a claim", reply.by(1).to(1).about(CLAIM));
    }
  }

  // ---- other acts

  private static void others() {
    Edges.of(TURNS, "- BECAUSE, RETRACT: the speaker is committed about the atom.",
        TurnEdgeTests::commitments);
    Edges.of(TURNS, "CANCEL: it has a hint of it.", TurnEdgeTests::cancels);
    Edges.of(TURNS, "OFFER: both own what is told.", TurnEdgeTests::offers);
  }

  private static Supplier<ParleyRoom> committed(int value) {
    return () -> {
      Talk talk = new Talk();
      talk.asserts(0, 4, value);
      talk.asserts(1, 5, value);
      return talk.room;
    };
  }

  private static void commitments() {
    Saying because = Saying.of(0, ParleyRoom.BECAUSE, 4, 5, 2, NONE);
    Saying retract = Saying.of(0, ParleyRoom.RETRACT, 4, 5, 2, NONE);
    for (Saying saying : new Saying[] {because, retract}) {
      Refusals.notNow(Scenes.NEW, "to nothing", saying);
      Refusals.fine(committed(YES), "to YES", saying);
      Refusals.fine(committed(NO), "to NO", saying);
      Refusals.notNow(committed(YES), "about another atom", saying.about(3));
      Refusals.notNow(committed(YES), "another speaker", saying.about(5).value(4));
      Refusals.notNow(TurnEdgeTests::retracted, "to nothing any more", saying);
    }
  }

  private static ParleyRoom retracted() {
    Talk talk = new Talk();
    talk.asserts(0, 4, YES);
    talk.does(0, ParleyRoom.RETRACT, 4, 0);
    return talk.room;
  }

  private static ParleyRoom hinted(int ticks) {
    Talk talk = new Talk();
    talk.hints(0, 4, NO);
    talk.room.tick(ticks);
    return talk.room;
  }

  private static void cancels() {
    Saying cancel = Saying.of(0, ParleyRoom.CANCEL, 4, 0, 2, NONE);
    Refusals.notNow(Scenes.NEW, "none", cancel);
    Refusals.fine(() -> hinted(1), "one", cancel);
    Refusals.notNow(() -> hinted(1), "of another atom", cancel.about(5));
    Refusals.notNow(() -> hinted(1), "of another speaker", cancel.by(1).to(1));
    Refusals.fine(() -> hinted(3), "4 ticks ago", cancel);
    Refusals.notNow(() -> hinted(4), "5 ticks ago", cancel);
    Refusals.notNow(committed(YES), "a commitment", cancel);
  }

  private static void offers() {
    Supplier<ParleyRoom> market = () -> {
      ParleyRoom room = new ParleyRoom();
      room.give(0, 0);
      room.give(1, 0);
      room.give(6, 1);
      room.give(7, 1);
      return room;
    };
    Saying offer = Saying.of(0, ParleyRoom.OFFER, 3, 192, 2, 5);
    Refusals.fine(market, "all that both own", offer);
    Refusals.fine(market, "nothing for all", offer.about(0));
    Refusals.fine(market, "all for nothing", offer.value(0));
    Refusals.notNow(market, "one more that nobody owns", offer.about(7));
    Refusals.notNow(market, "for one more that nobody owns", offer.value(224));
    Refusals.notNow(market, "what the other one owns", offer.about(64).value(0));
    Refusals.notNow(market, "for what is its own", offer.about(0).value(1));
    Refusals.notNow(market, "one who owns nothing", offer.to(4));
    Refusals.notNow(Scenes.NEW, "nobody owns anything", offer);
  }

  // ---- strict rules

  private static void strict() {
    Edges.of(TURNS, "It can be said only if it is possible, and, if the rules are strict,"
        + " permitted", TurnEdgeTests::onlyIfStrict);
    Edges.of(TURNS, "- By strict rules, but for ACK, CLARIFY and REPEAT, which are always"
        + " permitted", TurnEdgeTests::alwaysPermitted);
    Edges.of(TURNS, "one to whom the top question is can only ANSWER it, or ASSERT its atom",
        TurnEdgeTests::askedAtTheTop);
    Edges.of(TURNS, "otherwise one who asserts in a quarrel can only tell BECAUSE or RETRACT of"
        + " the atom of such a quarrel.", TurnEdgeTests::asserting);
  }

  /**
   * Speaker 0 asserts in quarrels about the atoms 2 and 3 with speaker 1, has claimed 7 and hinted
   * 8. Of speaker 2 it heard a claim (turn 5) and an offer (turn 6) and missed turn 7; that one
   * missed turn 8, which is by speaker 0.
   */
  private static Talk quarrels(boolean strict) {
    Talk talk = new Talk();
    talk.room.give(0, 0);
    talk.room.give(1, 2);
    talk.quarrel(2);
    talk.quarrel(3);
    talk.asserts(0, 7, YES);
    talk.asserts(2, 5, YES);
    talk.offers(2, 2, 0, 0, 20);
    talk.room.deafen(0, 1);
    talk.asserts(2, 6, YES);
    talk.room.deafen(2, 1);
    talk.asserts(0, 9, YES);
    talk.hints(0, 8, YES);
    talk.room.strict(strict);
    return talk;
  }

  /** As quarrels, with a question about atom 4 to speaker 0 on top. */
  private static Talk asked(boolean strict) {
    Talk talk = quarrels(false);
    talk.asks(3, 4, 0);
    talk.room.strict(strict);
    return talk;
  }

  private static final Saying[] REPLIES = {
    Saying.of(0, ParleyRoom.ACK, 5, 0, 2, NONE),
    Saying.of(0, ParleyRoom.CLARIFY, 7, 0, 2, NONE),
    Saying.of(0, ParleyRoom.REPEAT, 8, 0, 2, NONE)
  };

  private static final Saying[] OTHERS = {
    Saying.of(0, ParleyRoom.ASSERT, 5, YES, 2, NONE),
    Saying.of(0, ParleyRoom.ASSERT, 2, YES, 2, NONE),
    Saying.of(0, ParleyRoom.ASK, 4, 0, 8, NONE),
    Saying.of(0, ParleyRoom.CONCEDE, 5, 0, 2, NONE),
    Saying.of(0, ParleyRoom.DENY, 5, 0, 2, NONE),
    Saying.of(0, ParleyRoom.BECAUSE, 7, 1, 2, NONE),
    Saying.of(0, ParleyRoom.RETRACT, 7, 0, 2, NONE),
    Saying.of(0, ParleyRoom.HINT, 4, YES, 2, NONE),
    Saying.of(0, ParleyRoom.HINT, 2, YES, 2, NONE),
    Saying.of(0, ParleyRoom.CANCEL, 8, 0, 2, NONE),
    Saying.of(0, ParleyRoom.OFFER, 1, 0, 2, 5),
    Saying.of(0, ParleyRoom.ACCEPT, 6, 0, 4, NONE),
    Saying.of(0, ParleyRoom.REJECT, 6, 0, 4, NONE)
  };

  private static final Saying[] REASONS = {
    Saying.of(0, ParleyRoom.BECAUSE, 2, 1, 2, NONE),
    Saying.of(0, ParleyRoom.BECAUSE, 3, 1, 2, NONE),
    Saying.of(0, ParleyRoom.RETRACT, 2, 0, 2, NONE),
    Saying.of(0, ParleyRoom.RETRACT, 3, 0, 2, NONE)
  };

  private static final Saying[] ANSWERS = {
    Saying.of(0, ParleyRoom.ANSWER, 0, 0, 2, NONE),
    Saying.of(0, ParleyRoom.ANSWER, 0, YES, 2, NONE),
    Saying.of(0, ParleyRoom.ANSWER, 0, NO, 2, NONE),
    Saying.of(0, ParleyRoom.ASSERT, 4, YES, 2, NONE),
    Saying.of(0, ParleyRoom.ASSERT, 4, NO, 2, NONE)
  };

  private static void may(Supplier<ParleyRoom> scene, boolean due, Saying[] sayings) {
    for (Saying saying : sayings) {
      Refusals.may(scene, due ? "possible and permitted" : "not permitted", due, saying);
    }
  }

  private static void onlyIfStrict() {
    Supplier<ParleyRoom> loose = () -> asked(false).room;
    may(loose, true, REPLIES);
    may(loose, true, OTHERS);
    may(loose, true, REASONS);
    may(loose, true, ANSWERS);
    Supplier<ParleyRoom> noMore = () -> {
      ParleyRoom room = asked(true).room;
      room.strict(false);
      return room;
    };
    may(noMore, true, OTHERS);
  }

  private static void alwaysPermitted() {
    may(() -> asked(true).room, true, REPLIES);
    may(() -> quarrels(true).room, true, REPLIES);
  }

  private static void askedAtTheTop() {
    Supplier<ParleyRoom> scene = () -> asked(true).room;
    may(scene, true, ANSWERS);
    may(scene, false, OTHERS);
    may(scene, false, REASONS);
    Saying other = Saying.of(3, ParleyRoom.ASSERT, 1, YES, 1, NONE);
    Refusals.fine(scene, "the one who asked", other);
    Refusals.fine(scene, "one who has nothing to do with it", other.by(2));
    Supplier<ParleyRoom> below = () -> {
      Talk talk = new Talk();
      talk.asks(3, 4, 0);
      talk.asks(3, 4, 2);
      talk.room.strict(true);
      return talk.room;
    };
    Refusals.fine(below, "below the top", other.by(0).to(2));
    Refusals.notNow(below, "at the top", other.by(2));
  }

  private static void asserting() {
    Supplier<ParleyRoom> scene = () -> quarrels(true).room;
    may(scene, true, REASONS);
    may(scene, false, OTHERS);
    may(scene, false, new Saying[] {ANSWERS[3], ANSWERS[4]});
    Saying other = Saying.of(1, ParleyRoom.ASSERT, 1, YES, 1, NONE);
    Refusals.fine(scene, "the one who denied", other);
    Refusals.fine(scene, "one who has nothing to do with it", other.by(3));
    Supplier<ParleyRoom> oneLeft = () -> {
      Talk talk = quarrels(true);
      talk.does(0, ParleyRoom.BECAUSE, 2, 1);
      return talk.room;
    };
    Refusals.notNow(oneLeft, "of the one that is over", REASONS[0]);
    Refusals.fine(oneLeft, "of the one that is left", REASONS[1]);
    Supplier<ParleyRoom> noneLeft = () -> {
      ParleyRoom room = oneLeft.get();
      room.say(0, ParleyRoom.RETRACT, 3, 0, 2, NONE);
      return behindATick(room);
    };
    may(noneLeft, true, new Saying[] {OTHERS[0], REASONS[0], REASONS[2]});
  }
}
