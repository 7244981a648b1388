import java.util.function.Supplier;

/** What promises 8 and 9, and the list of acts behind "Turns", tell of edges. */
final class SayingEdgeTests {
  private static final String TURNS = "Turns";
  private static final int YES = ParleyRoom.YES;
  private static final int NO = ParleyRoom.NO;
  private static final int NONE = ParleyRoom.NONE;
  private static final int LEAST = Integer.MIN_VALUE;
  private static final int GREATEST = Integer.MAX_VALUE;
  private static final int ACTS = 16;

  private static final int[] ABOUT_A_TURN = {
    ParleyRoom.ACK, ParleyRoom.CLARIFY, ParleyRoom.REPEAT, ParleyRoom.CONCEDE, ParleyRoom.DENY,
    ParleyRoom.ACCEPT, ParleyRoom.REJECT
  };

  private SayingEdgeTests() {}

  static void run() {
    arguments();
    answers();
    acts();
  }

  private static void arguments() {
    ofBoth("- `speaker`: 0 to 3", SayingEdgeTests::speakers);
    ofBoth("- `act`: ASSERT to REJECT", SayingEdgeTests::allActs);
    ofBoth("- `about`: as told", SayingEdgeTests::abouts);
    ofBoth("- `value`: as told", SayingEdgeTests::values);
    ofBoth("- `to`: those to whom it is said, as a set of bits, 1 to 15, without the speaker",
        SayingEdgeTests::listeners);
    ofBoth("- `given`: as told", SayingEdgeTests::givens);
    ofBoth("Throws `IndexOutOfBoundsException` if there is no such speaker",
        SayingEdgeTests::speakersRefused);
    ofBoth("Throws `IllegalArgumentException` if act or to is out of range, or about, value or"
        + " given, as told of the act (turns that there are not, and a set of several where it is"
        + " to one alone, too)", SayingEdgeTests::refused);
  }

  /** Both promises have the sentence; each of its tests calls both. */
  private static void ofBoth(String sentence, Runnable test) {
    Edges.of("Promise 8: can", sentence, test);
    Edges.holds("Promise 9: say", sentence);
  }

  private static void answers() {
    Edges.of("Promise 8: can", "Returns whether say() would not throw IllegalStateException.",
        SayingEdgeTests::canAnswers);
    Edges.of("Promise 9: say", "Says a turn; it is SAID until the next tick.",
        SayingEdgeTests::saidUntilTheTick);
    Edges.of("Promise 9: say", "Returns its number.", SayingEdgeTests::numbers);
    Edges.of("Promise 9: say", "Throws `IllegalStateException` if the speaker has said one since"
        + " the last tick, there are 100 turns, or it is not possible, or not permitted",
        SayingEdgeTests::refusedNow);
  }

  private static void acts() {
    Edges.of(TURNS, "- ASSERT: an atom and YES or NO; given an atom that it takes to be so, or"
        + " NONE.", SayingEdgeTests::assertTold);
    Edges.of(TURNS, "ASK: an atom, to one alone; given likewise.", SayingEdgeTests::askTold);
    Edges.of(TURNS, "ANSWER: YES, NO, or 0 for not knowing.", SayingEdgeTests::answerTold);
    Edges.of(TURNS, "- ACK, CLARIFY, REPEAT, CONCEDE, DENY, ACCEPT, REJECT: a turn.",
        SayingEdgeTests::replyTold);
    Edges.of(TURNS, "- BECAUSE: an atom, and as the value another atom, not the same.",
        SayingEdgeTests::becauseTold);
    Edges.of(TURNS, "RETRACT, CANCEL: an atom.", SayingEdgeTests::takingBackTold);
    Edges.of(TURNS, "HINT: an atom and YES or NO.", SayingEdgeTests::hintTold);
    Edges.of(TURNS, "- OFFER, to one alone: a set of goods that the speaker has, and as the value"
        + " a set that the other one has, not both empty; given for how many ticks, 1 to 20.",
        SayingEdgeTests::offerTold);
    Edges.of(TURNS, "What is not told of an act does not matter.",
        SayingEdgeTests::whatIsNotTold);
  }

  /** Speaker 0 asked speaker 3, both have goods, both claimed and hinted; nobody is restricted. */
  private static final Supplier<ParleyRoom> READY = () -> {
    Talk talk = new Talk();
    for (int good = 0; good < 8; good++) {
      talk.room.give(good, good < 4 ? 0 : 3);
    }
    talk.asserts(0, 0, YES);
    talk.asserts(3, 0, YES);
    talk.hints(3, 0, YES);
    talk.asks(0, 0, 3);
    return talk.room;
  };

  /** As READY, the question being one by speaker 3 to speaker 0. */
  private static final Supplier<ParleyRoom> ASKING = () -> {
    Talk talk = new Talk();
    talk.asks(3, 0, 0);
    return talk.room;
  };

  private static void outOfRange(Saying saying) {
    Refusals.outOfRange(READY, saying);
  }

  private static void outOfRangeAbout(Saying saying, int least, int most) {
    for (int about : Edges.beside(least, most)) {
      outOfRange(saying.about(about));
    }
  }

  private static void outOfRangeValue(Saying saying, int least, int most) {
    for (int value : Edges.beside(least, most)) {
      outOfRange(saying.value(value));
    }
  }

  private static void outOfRangeGiven(Saying saying, int least, int most) {
    for (int given : Edges.beside(least, most)) {
      outOfRange(saying.given(given));
    }
  }

  private static void fine(Saying saying) {
    Refusals.fine(READY, "in its ranges", saying);
  }

  // ---- arguments

  private static void speakers() {
    for (int speaker = 0; speaker <= 3; speaker++) {
      Refusals.fine(Scenes.NEW, "by any speaker",
          Saying.of(speaker, ParleyRoom.ASSERT, 0, YES, Talk.allBut(speaker), NONE));
    }
  }

  private static void speakersRefused() {
    for (int speaker : Edges.beside(0, 3)) {
      Refusals.noSuch(Scenes.NEW, Saying.of(speaker, ParleyRoom.ASSERT, 0, YES, 1, NONE));
      Refusals.noSuch(Scenes.BUSY, Saying.of(speaker, ParleyRoom.ASSERT, 0, YES, 1, NONE));
      for (int act = 0; act < ACTS; act++) {
        Refusals.noSuch(Scenes.NEW, Saying.inRange(act).by(speaker));
      }
    }
  }

  private static void allActs() {
    for (int act = 0; act < ACTS; act++) {
      Saying saying = Saying.inRange(act);
      Edges.takes("can, " + saying, room -> saying.can(READY.get()));
    }
    Refusals.fine(READY, "the first act", Saying.inRange(ParleyRoom.ASSERT));
    Refusals.fine(SayingEdgeTests::offered, "the last act", Saying.inRange(ParleyRoom.REJECT));
  }

  private static ParleyRoom offered() {
    Talk talk = new Talk();
    talk.room.give(0, 0);
    talk.offers(0, 1, 0, 3, 20);
    return talk.room;
  }

  private static void refused() {
    for (int act : Edges.beside(0, ACTS - 1)) {
      outOfRange(Saying.inRange(ParleyRoom.ASSERT).act(act));
      outOfRange(Saying.inRange(ParleyRoom.OFFER).act(act));
    }
    for (int act = 0; act < ACTS; act++) {
      for (int to : Edges.beside(1, 15)) {
        outOfRange(Saying.inRange(act).to(to));
      }
      outOfRange(Saying.inRange(act).to(8));
      outOfRange(Saying.inRange(act).to(15));
    }
    for (int act : ABOUT_A_TURN) {
      Refusals.outOfRange(Scenes.NEW, Saying.inRange(act));
      outOfRangeAbout(Saying.inRange(act), 0, READY.get().said() - 1);
    }
    for (int to : new int[] {3, 5, 6, 7}) {
      outOfRange(Saying.inRange(ParleyRoom.ASK).to(to));
      outOfRange(Saying.inRange(ParleyRoom.OFFER).to(to));
    }
  }

  private static void abouts() {
    int[] ofAtoms = {
      ParleyRoom.ASSERT, ParleyRoom.ASK, ParleyRoom.BECAUSE, ParleyRoom.RETRACT, ParleyRoom.HINT,
      ParleyRoom.CANCEL
    };
    for (int act : ofAtoms) {
      outOfRangeAbout(Saying.inRange(act), 0, 9);
    }
    for (int act : ABOUT_A_TURN) {
      outOfRangeAbout(Saying.inRange(act), 0, READY.get().said() - 1);
    }
    outOfRangeAbout(Saying.inRange(ParleyRoom.OFFER), 0, 255);
  }

  private static void values() {
    outOfRangeValue(Saying.inRange(ParleyRoom.ASSERT), YES, NO);
    outOfRangeValue(Saying.inRange(ParleyRoom.HINT), YES, NO);
    outOfRangeValue(Saying.inRange(ParleyRoom.ANSWER), 0, NO);
    outOfRangeValue(Saying.inRange(ParleyRoom.BECAUSE), 0, 9);
    outOfRangeValue(Saying.inRange(ParleyRoom.OFFER), 0, 255);
  }

  private static void listeners() {
    for (int speaker = 0; speaker <= 3; speaker++) {
      for (int to = 0; to <= 16; to++) {
        Saying saying = Saying.of(speaker, ParleyRoom.ASSERT, 0, YES, to, NONE);
        if (to >= 1 && to <= 15 && (to >> speaker & 1) == 0) {
          Refusals.fine(Scenes.NEW, "to others", saying);
        } else {
          Refusals.outOfRange(Scenes.NEW, saying);
        }
      }
    }
  }

  private static void givens() {
    outOfRangeGiven(Saying.inRange(ParleyRoom.ASSERT), NONE, 9);
    outOfRangeGiven(Saying.inRange(ParleyRoom.ASK), NONE, 9);
    outOfRangeGiven(Saying.inRange(ParleyRoom.OFFER), 1, 20);
  }

  // ---- answers

  private static void canAnswers() {
    for (int act = 0; act < ACTS; act++) {
      for (int speaker = 0; speaker <= 3; speaker++) {
        for (int about = 0; about < 4; about++) {
          Saying saying = Saying.of(speaker, act, about, NO + about % 2, 1 << (speaker + 1) % 4, 3);
          Check.same("can is as say, " + saying, canOf(saying), sayOf(saying));
        }
      }
    }
  }

  private static String canOf(Saying saying) {
    try {
      return saying.can(Scenes.BUSY.get()) ? "fine" : "not now";
    } catch (IllegalArgumentException e) {
      return "out of range";
    }
  }

  private static String sayOf(Saying saying) {
    try {
      saying.say(Scenes.BUSY.get());
      return "fine";
    } catch (IllegalStateException e) {
      return "not now";
    } catch (IllegalArgumentException e) {
      return "out of range";
    }
  }

  private static void saidUntilTheTick() {
    Talk talk = new Talk();
    int turn = talk.say(0, ParleyRoom.ASSERT, 0, YES);
    Check.same("before the tick", talk.state(turn), ParleyRoom.SAID);
    Check.same("nothing is done", talk.room.stand(0, 0), 0);
    Check.outOfRange(talk.room, "a tick that is refused", () -> talk.room.tick(0));
    Check.same("behind a refused tick", talk.state(turn), ParleyRoom.SAID);
    talk.room.tick(1);
    Check.same("behind the tick", talk.state(turn), ParleyRoom.DONE);
  }

  private static void numbers() {
    Talk talk = new Talk();
    Check.same("the first", talk.say(3, ParleyRoom.ASSERT, 0, YES), 0);
    Check.notNow(talk.room, "refused", () -> talk.say(3, ParleyRoom.ASSERT, 0, YES));
    Check.outOfRange(talk.room, "refused", () -> talk.say(0, ParleyRoom.ASSERT, 0, 0));
    Check.same("the next, refused ones have none", talk.say(0, ParleyRoom.ASSERT, 0, YES), 1);
    talk.room.tick(1);
    Check.same("behind a LOST one", talk.say(0, ParleyRoom.ASSERT, 0, YES), 2);
  }

  private static void refusedNow() {
    Supplier<ParleyRoom> said = () -> {
      Talk talk = new Talk();
      talk.say(0, ParleyRoom.ASSERT, 0, YES);
      return talk.room;
    };
    Saying other = Saying.of(0, ParleyRoom.ASSERT, 1, YES, 2, NONE);
    Refusals.notNow(said, "said one already", other);
    Refusals.notNow(Scenes.FULL, "100 turns", other);
    Refusals.notNow(Scenes.NEW, "not possible", other.act(ParleyRoom.RETRACT));
    Refusals.notNow(SayingEdgeTests::strictlyAsked, "not permitted", other.by(3).to(1));
    Refusals.fine(SayingEdgeTests::strictlyAsked, "permitted", other.by(3).to(1).about(0));
  }

  private static ParleyRoom strictlyAsked() {
    ParleyRoom room = READY.get();
    room.strict(true);
    return room;
  }

  // ---- what is told of acts

  private static void assertTold() {
    Saying saying = Saying.inRange(ParleyRoom.ASSERT);
    for (int number : new int[] {0, 9}) {
      fine(saying.about(number));
      fine(saying.given(number));
    }
    fine(saying.given(NONE));
    fine(saying.value(YES));
    fine(saying.value(NO));
    outOfRangeAbout(saying, 0, 9);
    outOfRangeValue(saying, YES, NO);
    outOfRangeGiven(saying, NONE, 9);
  }

  private static void askTold() {
    Saying saying = Saying.inRange(ParleyRoom.ASK);
    for (int number : new int[] {0, 9}) {
      fine(saying.about(number));
      fine(saying.given(number));
    }
    fine(saying.given(NONE));
    outOfRangeAbout(saying, 0, 9);
    outOfRangeGiven(saying, NONE, 9);
    for (int to = 1; to <= 7; to++) {
      if (Integer.bitCount(to) == 1) {
        fine(saying.to(to));
      } else {
        outOfRange(saying.to(to));
      }
    }
  }

  private static void answerTold() {
    Saying saying = Saying.inRange(ParleyRoom.ANSWER);
    fine(saying.value(YES));
    fine(saying.value(NO));
    fine(saying.value(0));
    outOfRangeValue(saying, 0, NO);
  }

  private static void replyTold() {
    fine(Saying.inRange(ParleyRoom.ACK).about(0));
    fine(Saying.inRange(ParleyRoom.ACK).about(READY.get().said() - 1));
    for (int act : ABOUT_A_TURN) {
      Saying saying = Saying.inRange(act);
      Edges.takes("the first turn", room -> saying.can(READY.get()));
      Edges.takes("the last turn", room -> saying.about(3).can(READY.get()));
      outOfRangeAbout(saying, 0, 3);
    }
  }

  private static void becauseTold() {
    Saying saying = Saying.inRange(ParleyRoom.BECAUSE);
    fine(saying.value(1));
    fine(saying.value(9));
    outOfRangeAbout(saying, 0, 9);
    outOfRangeValue(saying, 0, 9);
    for (int atom = 0; atom <= 9; atom++) {
      outOfRange(saying.about(atom).value(atom));
    }
    Saying last = saying.about(9).value(0);
    Refusals.fine(() -> strictlyCommitted(9), "because of the last atom", last);
  }

  private static ParleyRoom strictlyCommitted(int atom) {
    Talk talk = new Talk();
    talk.room.strict(true);
    talk.asserts(3, atom, NO);
    talk.hints(3, atom, NO);
    return talk.room;
  }

  private static void takingBackTold() {
    for (int act : new int[] {ParleyRoom.RETRACT, ParleyRoom.CANCEL}) {
      Saying saying = Saying.inRange(act);
      for (int atom = 0; atom <= 9; atom++) {
        int one = atom;
        Refusals.fine(() -> strictlyCommitted(one), "any atom", saying.about(atom));
      }
      outOfRangeAbout(saying, 0, 9);
    }
  }

  private static void hintTold() {
    Saying saying = Saying.inRange(ParleyRoom.HINT);
    fine(saying.about(0));
    fine(saying.about(9));
    fine(saying.value(YES));
    fine(saying.value(NO));
    outOfRangeAbout(saying, 0, 9);
    outOfRangeValue(saying, YES, NO);
  }

  private static void offerTold() {
    Saying saying = Saying.inRange(ParleyRoom.OFFER);
    fine(saying.about(16 + 32 + 64 + 128).value(1 + 2 + 4 + 8));
    fine(saying.about(0).value(1));
    fine(saying.about(16).value(0));
    outOfRange(saying.about(0).value(0));
    outOfRangeAbout(saying, 0, 255);
    outOfRangeValue(saying, 0, 255);
    outOfRangeAbout(saying.value(1), 0, 255);
    fine(saying.given(1));
    fine(saying.given(20));
    outOfRangeGiven(saying, 1, 20);
    Refusals.notNow(READY, "all goods", saying.about(255));
    Refusals.notNow(READY, "all goods of the other one", saying.value(255));
    for (int to = 1; to <= 7; to++) {
      if (Integer.bitCount(to) == 1) {
        fine(saying.to(to));
      } else {
        outOfRange(saying.to(to));
      }
    }
  }

  private static void whatIsNotTold() {
    for (int odd : new int[] {LEAST, -2, 256, GREATEST}) {
      fine(Saying.inRange(ParleyRoom.ASK).value(odd));
      fine(Saying.inRange(ParleyRoom.ANSWER).about(odd).given(odd));
      Refusals.fine(ASKING, "drop", Saying.of(3, ParleyRoom.DROP, odd, odd, 1, odd));
      fine(Saying.inRange(ParleyRoom.BECAUSE).given(odd));
      fine(Saying.inRange(ParleyRoom.RETRACT).value(odd).given(odd));
      fine(Saying.inRange(ParleyRoom.HINT).given(odd));
      fine(Saying.inRange(ParleyRoom.CANCEL).value(odd).given(odd));
      for (int act : ABOUT_A_TURN) {
        Saying saying = Saying.inRange(act);
        Check.same("act " + act, saying.value(odd).given(odd).can(READY.get()),
            saying.can(READY.get()));
      }
    }
  }
}
