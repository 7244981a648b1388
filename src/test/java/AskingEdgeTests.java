import java.math.BigInteger;

/** What promises 11 to 28 tell of edges, sentence by sentence. */
final class AskingEdgeTests {
  private static final int YES = ParleyRoom.YES;
  private static final int NO = ParleyRoom.NO;
  private static final int NONE = ParleyRoom.NONE;
  private static final int LEAST = Integer.MIN_VALUE;
  private static final int GREATEST = Integer.MAX_VALUE;

  private AskingEdgeTests() {}

  static void run() {
    Edges.of("Promise 11: clock", "`int clock()`: Returns the clock.", AskingEdgeTests::clock);
    Edges.of("Promise 12: next",
        "`int next()`: Returns who has the right to the next turn; NONE if nobody has.",
        AskingEdgeTests::next);
    Edges.of("Promise 13: said", "`int said()`: Returns how many turns there are.",
        AskingEdgeTests::said);
    turn();
    heard();
    commitments();
    lies();
    ground();
    questions();
    Edges.of("Promise 25: quarrels", "`int quarrels()`: Returns how many quarrels there are.",
        AskingEdgeTests::quarrels);
    goods();
    minutes();
  }

  private static void clock() {
    ParleyRoom room = new ParleyRoom();
    Check.same("at first", room.clock(), 0);
    for (int i = 1; i <= 25; i++) {
      room.tick(20);
      Check.same("20 ticks more", room.clock(), 20 * i);
    }
    Check.outOfRange(room, "refused", () -> room.tick(0));
    Check.same("behind a refusal", room.clock(), 500);
  }

  private static void next() {
    Talk talk = new Talk();
    Check.same("at first", talk.room.next(), NONE);
    for (int speaker = 0; speaker < 4; speaker++) {
      talk.asks((speaker + 1) % 4, 0, speaker);
      Check.same("any speaker", talk.room.next(), speaker);
    }
    talk.room.tick(2);
    Check.same("nobody any more", talk.room.next(), NONE);
  }

  private static void said() {
    Talk talk = new Talk();
    Check.same("none", talk.room.said(), 0);
    talk.say(0, ParleyRoom.ASSERT, 0, YES);
    Check.same("SAID", talk.room.said(), 1);
    talk.say(1, ParleyRoom.ASSERT, 0, YES);
    talk.room.tick(1);
    Check.same("LOST", talk.room.said(), 2);
    Check.outOfRange(talk.room, "out of range", () -> talk.say(0, ParleyRoom.ASSERT, 10, YES));
    Check.notNow(talk.room, "not now", () -> talk.say(0, ParleyRoom.DROP, 0, 0));
    Check.same("refused ones are none", talk.room.said(), 2);
    Check.same("at most", Scenes.FULL.get().said(), 100);
  }

  // ---- turns

  private static void turn() {
    String promise = "Promise 14: turn";
    Edges.of(promise, "- `turn`: its number", AskingEdgeTests::turnNumbers);
    Edges.of(promise, "- `what`: 0 its speaker, 1 its act, 2 what it is about, 3 its value, 4 to"
        + " whom it is, 5 what is given, 6 what it is, 7 the clock when it was carried out, NONE if"
        + " it was not, or was VOID, 8 whether it is an OFFER that is open, 1 or 0",
        AskingEdgeTests::whatOfTurns);
    Edges.of(promise, "Returns that; about, value and given as they were told, but for what"
        + " carrying it out changes.", AskingEdgeTests::asTold);
    Edges.of(promise, "Throws `IndexOutOfBoundsException` if there is no such turn",
        AskingEdgeTests::noTurn);
    Edges.of(promise, "Throws `IllegalArgumentException` if what is out of range", () -> {
      for (int what : Edges.beside(0, 8)) {
        Refusals.outOfRange(Scenes.BUSY, "what", room -> room.turn(0, what));
      }
    });
  }

  private static void turnNumbers() {
    ParleyRoom room = Scenes.FULL.get();
    for (int turn = 0; turn < 100; turn++) {
      Check.same("speaker", room.turn(turn, 0), turn % 4);
    }
  }

  private static void noTurn() {
    Refusals.noSuch(Scenes.NEW, "none was said", room -> room.turn(0, 0));
    for (int turn : Edges.beside(0, Scenes.BUSY_TURNS - 1)) {
      Refusals.noSuch(Scenes.BUSY, "turn", room -> room.turn(turn, 8));
    }
    for (int turn : Edges.beside(0, 99)) {
      Refusals.noSuch(Scenes.FULL, "turn", room -> room.turn(turn, 0));
    }
  }

  private static void told(Talk talk, int turn, int... due) {
    for (int what = 0; what < due.length; what++) {
      Check.same("turn " + turn + ", " + what, talk.room.turn(turn, what), due[what]);
    }
  }

  private static void whatOfTurns() {
    Talk talk = new Talk();
    talk.room.give(7, 3);
    int offer = talk.room.say(3, ParleyRoom.OFFER, 128, 0, 4, 20);
    int lost = talk.room.say(2, ParleyRoom.HINT, 9, NO, 11, NONE);
    told(talk, offer, 3, 13, 128, 0, 4, 20, ParleyRoom.SAID, NONE, 0);
    talk.room.power(3, 1);
    talk.room.tick(1);
    told(talk, offer, 3, 13, 128, 0, 4, 20, ParleyRoom.DONE, 0, 1);
    told(talk, lost, 2, 11, 9, NO, 11, NONE, ParleyRoom.LOST, NONE, 0);
    int reject = talk.room.say(2, ParleyRoom.REJECT, offer, 0, 8, 0);
    talk.room.tick(1);
    told(talk, offer, 3, 13, 128, 0, 4, 20, ParleyRoom.DONE, 0, 0);
    told(talk, reject, 2, 15, offer, 0, 8, 0, ParleyRoom.DONE, 1, 0);
    int gone = talk.room.say(3, ParleyRoom.OFFER, 128, 0, 4, 20);
    talk.room.give(7, NONE);
    talk.room.tick(1);
    told(talk, gone, 3, 13, 128, 0, 4, 20, ParleyRoom.VOID, NONE, 0);
    talk.asserts(0, 0, NO);
    int doubted = talk.does(1, ParleyRoom.ASSERT, 1, YES, 1, 0);
    told(talk, doubted, 1, 0, 1, YES, 1, 0, ParleyRoom.CHALLENGED, 4, 0);
  }

  private static void asTold() {
    Talk talk = new Talk();
    talk.room.give(0, 0);
    int ask = talk.does(0, ParleyRoom.ASK, 9, LEAST, 2, NONE);
    int answer = talk.room.say(1, ParleyRoom.ANSWER, GREATEST, 0, 1, LEAST);
    told(talk, answer, 1, 2, GREATEST, 0, 1, LEAST);
    talk.room.tick(1);
    told(talk, answer, 1, 2, 9, 0, 1, LEAST);
    told(talk, ask, 0, 1, 9, LEAST, 2, NONE);
    int offer = talk.offers(0, 1, 0, 1, 20);
    int accept = talk.room.say(1, ParleyRoom.ACCEPT, offer, LEAST, 1, GREATEST);
    told(talk, accept, 1, 14, offer, LEAST, 1, GREATEST);
    talk.room.tick(1);
    told(talk, accept, 1, 14, offer, 1, 1, GREATEST);
    told(talk, offer, 0, 13, 1, 0, 2, 20);
    int ack = talk.does(0, ParleyRoom.ACK, accept, GREATEST, 2, LEAST);
    told(talk, ack, 0, 4, accept, GREATEST, 2, LEAST);
    talk.asks(0, 3, 1);
    talk.room.tick(2);
    talk.say(0, ParleyRoom.HINT, 0, YES);
    int lost = talk.room.say(1, ParleyRoom.ANSWER, LEAST, 0, 1, GREATEST);
    talk.room.tick(1);
    told(talk, lost, 1, 2, LEAST, 0, 1, GREATEST, ParleyRoom.LOST);
    int drop = talk.does(0, ParleyRoom.DROP, LEAST, GREATEST, 2, LEAST);
    told(talk, drop, 0, 3, LEAST, GREATEST, 2, LEAST, ParleyRoom.DONE);
    int hint = talk.does(0, ParleyRoom.HINT, 9, NO, 2, GREATEST);
    told(talk, hint, 0, 11, 9, NO, 2, GREATEST, ParleyRoom.DONE);
    int cancel = talk.does(0, ParleyRoom.CANCEL, 9, LEAST, 2, GREATEST);
    told(talk, cancel, 0, 12, 9, LEAST, 2, GREATEST, ParleyRoom.DONE);
    talk.asserts(0, 9, NO);
    int retract = talk.does(0, ParleyRoom.RETRACT, 9, GREATEST, 2, LEAST);
    told(talk, retract, 0, 10, 9, GREATEST, 2, LEAST, ParleyRoom.DONE);
  }

  private static void heard() {
    String promise = "Promise 15: heard";
    Edges.of(promise, "- `turn`: its number", () -> {
      for (int turn = 0; turn < 100; turn++) {
        Check.same("LOST or DONE", Scenes.FULL.get().heard(turn, 3),
            turn % 4 == 0 ? ParleyRoom.HEARD : 0);
      }
    });
    Edges.of(promise, "- `hearer`: 0 to 3", () -> {
      for (int hearer = 0; hearer <= 3; hearer++) {
        Check.same("hearer", Scenes.claimed().get().heard(0, hearer),
            hearer == 0 ? 0 : ParleyRoom.HEARD);
      }
    });
    Edges.of(promise, "Returns MISSED to TAKEN; 0 for nothing.", AskingEdgeTests::allOfHeard);
    Edges.of(promise, "Throws `IndexOutOfBoundsException` if there is no such turn or speaker",
        AskingEdgeTests::heardRefused);
  }

  private static void allOfHeard() {
    Talk talk = new Talk();
    talk.room.knows(0, 2, 1, false);
    talk.room.knows(2, 3, 0, true);
    talk.room.deafen(3, 1);
    int turn = talk.say(0, ParleyRoom.HINT, 0, YES);
    Check.same("SAID", talk.room.heard(turn, 2), 0);
    talk.room.tick(1);
    Check.same("its own", talk.room.heard(turn, 0), 0);
    Check.same("COMING", talk.room.heard(turn, 1), ParleyRoom.COMING);
    Check.same("HEARD", talk.room.heard(turn, 2), ParleyRoom.HEARD);
    Check.same("MISSED", talk.room.heard(turn, 3), ParleyRoom.MISSED);
    talk.replies(2, ParleyRoom.ACK, turn);
    Check.same("TAKEN", talk.room.heard(turn, 2), ParleyRoom.TAKEN);
  }

  private static void heardRefused() {
    Refusals.noSuch(Scenes.NEW, "none was said", room -> room.heard(0, 0));
    for (int turn : Edges.beside(0, Scenes.BUSY_TURNS - 1)) {
      Refusals.noSuch(Scenes.BUSY, "turn", room -> room.heard(turn, 0));
    }
    for (int hearer : Edges.beside(0, 3)) {
      Refusals.noSuch(Scenes.BUSY, "hearer", room -> room.heard(0, hearer));
    }
  }

  // ---- commitments

  private static void commitments() {
    Edges.speakerAndAtom("Promise 16: stand",
        (room, speaker) -> room.stand(speaker, 0), (room, atom) -> room.stand(0, atom));
    Edges.of("Promise 16: stand", "Returns YES, NO, or 0 for nothing.", AskingEdgeTests::stand);
    Edges.speakerAndAtom("Promise 17: standBy",
        (room, speaker) -> room.standBy(speaker, 0), (room, atom) -> room.standBy(0, atom));
    Edges.of("Promise 17: standBy", "Returns the turn; NONE if it is committed to nothing.",
        AskingEdgeTests::standBy);
    Edges.speakerAndAtom("Promise 18: standAnew",
        (room, speaker) -> room.standAnew(speaker, 0), (room, atom) -> room.standAnew(0, atom));
    Edges.of("Promise 18: standAnew", "Returns YES, NO, or 0 for nothing.",
        AskingEdgeTests::stand);
    Edges.speakerAndAtom("Promise 19: hint",
        (room, speaker) -> room.hint(speaker, 0), (room, atom) -> room.hint(0, atom));
    Edges.of("Promise 19: hint", "Returns YES, NO, or 0 for none.", AskingEdgeTests::hint);
    Edges.speakerAndAtom("Promise 20: isSupported",
        (room, speaker) -> room.isSupported(speaker, 0),
        (room, atom) -> room.isSupported(0, atom));
    Edges.of("Promise 20: isSupported", "Tells whether a speaker is committed about an atom, and"
        + " has told a reason for it, at any time, whose other atom it is committed to still, to"
        + " YES.", AskingEdgeTests::isSupported);
  }

  private static void stands(Talk talk, int due, int by) {
    Check.same("stand", talk.room.stand(3, 9), due);
    Check.same("standAnew", talk.room.standAnew(3, 9), due);
    Check.same("standBy", talk.room.standBy(3, 9), by);
  }

  private static void stand() {
    Talk talk = new Talk();
    stands(talk, 0, NONE);
    stands(talk, YES, talk.asserts(3, 9, YES));
    stands(talk, NO, talk.asserts(3, 9, NO));
    talk.does(3, ParleyRoom.RETRACT, 9, 0);
    stands(talk, 0, NONE);
    int hint = talk.hints(3, 9, NO);
    talk.replies(0, ParleyRoom.ACK, hint);
    stands(talk, 0, NONE);
    talk.room.tick(3);
    stands(talk, NO, hint);
    talk.room.strict(true);
    talk.does(3, ParleyRoom.RETRACT, 9, 0);
    int claim = talk.asserts(0, 9, YES);
    talk.room.tick(5);
    stands(talk, YES, claim);
  }

  private static void standBy() {
    Talk talk = new Talk();
    Check.same("nothing", talk.room.standBy(0, 0), NONE);
    talk.asserts(0, 0, YES);
    Check.same("by turn 0", talk.room.standBy(0, 0), 0);
    for (int turn = 1; turn < 100; turn++) {
      talk.asserts(0, 0, turn % 2 == 0 ? YES : NO);
    }
    Check.same("by turn 99", talk.room.standBy(0, 0), 99);
  }

  private static void hint() {
    Talk talk = new Talk();
    Check.same("none", talk.room.hint(3, 9), 0);
    talk.hints(3, 9, NO);
    Check.same("NO", talk.room.hint(3, 9), NO);
    talk.hints(3, 9, YES);
    Check.same("YES", talk.room.hint(3, 9), YES);
    talk.does(3, ParleyRoom.CANCEL, 9, 0);
    Check.same("none any more", talk.room.hint(3, 9), 0);
  }

  private static void isSupported() {
    for (int value = YES; value <= NO; value++) {
      Talk talk = new Talk();
      Check.same("committed to nothing", talk.room.isSupported(0, 9), false);
      talk.asserts(0, 9, value);
      Check.same("no reason told", talk.room.isSupported(0, 9), false);
      talk.does(0, ParleyRoom.BECAUSE, 9, 0);
      Check.same("a reason", talk.room.isSupported(0, 9), true);
      talk.asserts(0, 0, NO);
      Check.same("the other atom to NO", talk.room.isSupported(0, 9), false);
      talk.does(0, ParleyRoom.RETRACT, 0, 0);
      Check.same("the other atom to nothing", talk.room.isSupported(0, 9), false);
      talk.asserts(0, 0, YES);
      Check.same("the other atom to YES again", talk.room.isSupported(0, 9), true);
      talk.does(0, ParleyRoom.RETRACT, 9, 0);
      Check.same("to nothing any more", talk.room.isSupported(0, 9), false);
      talk.asserts(0, 9, YES + NO - value);
      Check.same("at any time", talk.room.isSupported(0, 9), true);
    }
  }

  private static void lies() {
    String promise = "Promise 21: lies";
    Edges.speaker(promise, (room, speaker) -> room.lies(speaker));
    Edges.of(promise, "`int lies(int speaker) throws IndexOutOfBoundsException`: Returns how many"
        + " lies a speaker has told.", () -> {
      Talk talk = new Talk();
      talk.room.believe(3, 9, NO);
      for (int told = 0; told <= 100; told++) {
        Check.same("lies", talk.room.lies(3), told);
        if (told < 100) {
          talk.asserts(3, 9, YES);
        }
      }
      Check.same("of another", talk.room.lies(0), 0);
    });
  }

  // ---- common ground

  private static void ground() {
    String promise = "Promise 22: ground";
    Edges.of(promise, "- `set`: the speakers, as a set of bits, 1 to 15",
        () -> Edges.takes(1, 15, (room, set) -> room.ground(set, 0)));
    Edges.of(promise, "- `atom`: 0 to 9",
        () -> Edges.takes(0, 9, (room, atom) -> room.ground(15, atom)));
    Edges.of(promise, "that to which all of them are committed", AskingEdgeTests::groundOfAll);
    Edges.of(promise, "or to which one of them is committed, all others having TAKEN the turn by"
        + " which it is, and not being committed to the contrary, or being committed likewise.",
        AskingEdgeTests::groundOfOne);
    Edges.of(promise, "Returns YES, NO, or 0 for nothing; YES if both would be.",
        AskingEdgeTests::groundReturns);
    Edges.of(promise, "Throws `IndexOutOfBoundsException` if there is no such atom",
        () -> Edges.noSuch(0, 9, (room, atom) -> room.ground(1, atom)));
    Edges.of(promise, "Throws `IllegalArgumentException` if set is out of range",
        () -> Edges.outOfRange(1, 15, (room, set) -> room.ground(set, 9)));
  }

  private static void groundOfAll() {
    Talk talk = new Talk();
    for (int speaker = 0; speaker <= 3; speaker++) {
      talk.asserts(speaker, 9, NO);
      for (int set = 1; set <= 15; set++) {
        boolean all = set < 1 << speaker + 1;
        Check.same("ground of " + set, talk.room.ground(set, 9), all ? NO : 0);
      }
    }
  }

  private static void groundOfOne() {
    Talk talk = new Talk();
    int claim = talk.asserts(0, 9, YES);
    Check.same("alone, without others", talk.room.ground(1, 9), YES);
    Check.same("HEARD is not enough", talk.room.ground(3, 9), 0);
    talk.replies(1, ParleyRoom.ACK, claim);
    Check.same("one has TAKEN it", talk.room.ground(3, 9), YES);
    Check.same("one of two has", talk.room.ground(7, 9), 0);
    talk.asserts(2, 9, YES);
    Check.same("the other one likewise", talk.room.ground(7, 9), YES);
    Check.same("without the one", talk.room.ground(6, 9), 0);
    talk.asserts(1, 9, NO);
    Check.same("TAKEN, but to the contrary", talk.room.ground(3, 9), 0);
    talk.does(1, ParleyRoom.RETRACT, 9, 0);
    Check.same("TAKEN, and not to the contrary", talk.room.ground(3, 9), YES);
    talk.asserts(0, 9, YES);
    Check.same("by another turn, not TAKEN", talk.room.ground(3, 9), 0);
  }

  private static void groundReturns() {
    Talk talk = new Talk();
    Check.same("nothing", talk.room.ground(15, 0), 0);
    talk.asserts(0, 0, YES);
    talk.asserts(1, 0, NO);
    Check.same("YES", talk.room.ground(1, 0), YES);
    Check.same("NO", talk.room.ground(2, 0), NO);
    talk.replies(0, ParleyRoom.ACK, 1);
    talk.replies(1, ParleyRoom.ACK, 0);
    Check.same("each to the contrary of the other", talk.room.ground(3, 0), 0);
    talk.replies(2, ParleyRoom.ACK, 0);
    talk.replies(2, ParleyRoom.ACK, 1);
    Check.same("YES among two", talk.room.ground(5, 0), YES);
    Check.same("NO among two", talk.room.ground(6, 0), NO);
    Check.same("nothing among three", talk.room.ground(7, 0), 0);
  }

  // ---- questions and quarrels

  private static void questions() {
    Edges.of("Promise 23: questions", "`int questions()`: Returns how many questions are open.",
        () -> {
          for (int open = 0; open <= 6; open++) {
            Check.same("open", Scenes.asked(open).get().questions(), open);
          }
        });
    String promise = "Promise 24: question";
    Edges.of(promise, "- `place`: 0 for the top one", AskingEdgeTests::places);
    Edges.of(promise, "- `what`: 0 who asked, 1 who was asked, 2 the atom, 3 the turn",
        AskingEdgeTests::whatOfQuestions);
    Edges.of(promise, "Throws `IndexOutOfBoundsException` if there is no such question",
        AskingEdgeTests::noQuestion);
    Edges.of(promise, "Throws `IllegalArgumentException` if what is out of range", () -> {
      for (int what : Edges.beside(0, 3)) {
        Refusals.outOfRange(Scenes.BUSY, "what", room -> room.question(0, what));
      }
    });
  }

  private static void places() {
    for (int open = 1; open <= 6; open++) {
      ParleyRoom room = Scenes.asked(open).get();
      for (int place = 0; place < open; place++) {
        Check.same("atom", room.question(place, 2), open - 1 - place);
      }
    }
  }

  private static void whatOfQuestions() {
    for (int speaker = 0; speaker <= 3; speaker++) {
      for (int shift = 1; shift <= 3; shift++) {
        int one = (speaker + shift) % 4;
        Talk talk = new Talk();
        talk.hints(0, 0, YES);
        talk.asks(speaker, 9, one);
        Check.same("who asked", talk.room.question(0, 0), speaker);
        Check.same("who was asked", talk.room.question(0, 1), one);
        Check.same("the atom", talk.room.question(0, 2), 9);
        Check.same("the turn", talk.room.question(0, 3), 1);
      }
    }
  }

  private static void noQuestion() {
    Refusals.noSuch(Scenes.NEW, "none is open", room -> room.question(0, 0));
    for (int open = 1; open <= 6; open++) {
      for (int place : Edges.beside(0, open - 1)) {
        Refusals.noSuch(Scenes.asked(open), "question", room -> room.question(place, 3));
      }
    }
    Talk talk = new Talk();
    talk.asks(0, 0, 1);
    talk.does(0, ParleyRoom.DROP, 0, 0);
    Check.noSuch(talk.room, "a closed one", () -> talk.room.question(0, 0));
  }

  /** As many as there can be by 100 turns with one claim of an atom and three who deny it. */
  private static void quarrels() {
    Talk talk = new Talk();
    Check.same("none", talk.room.quarrels(), 0);
    for (int atom = 0; atom <= 9; atom++) {
      int claim = talk.asserts(3, atom, NO);
      for (int speaker = 0; speaker <= 2; speaker++) {
        talk.replies(speaker, ParleyRoom.DENY, claim);
        Check.same("one more", talk.room.quarrels(), 3 * atom + speaker + 1);
      }
    }
    for (int atom = 0; atom <= 9; atom++) {
      talk.does(3, ParleyRoom.RETRACT, atom, 0);
      Check.same("three less", talk.room.quarrels(), 27 - 3 * atom);
    }
  }

  // ---- goods and minutes

  private static void goods() {
    String promise = "Promise 26: owner";
    Edges.of(promise, "- `good`: 0 to 7",
        () -> Edges.takes(0, 7, (room, good) -> room.owner(good)));
    Edges.of(promise, "Returns the owner; NONE without one.", () -> {
      ParleyRoom room = new ParleyRoom();
      Check.same("without one", room.owner(7), NONE);
      for (int owner = 0; owner <= 3; owner++) {
        room.give(7, owner);
        Check.same("with one", room.owner(7), owner);
      }
      room.give(7, NONE);
      Check.same("without one again", room.owner(7), NONE);
    });
    Edges.of(promise, "Throws `IndexOutOfBoundsException` if there is no such good",
        () -> Edges.noSuch(0, 7, (room, good) -> room.owner(good)));
    Edges.of("Promise 27: deals",
        "`int deals()`: Returns how many offers were accepted so that goods went over.",
        AskingEdgeTests::deals);
  }

  private static void deals() {
    Talk talk = new Talk();
    talk.room.give(7, 0);
    Check.same("none", talk.room.deals(), 0);
    int offer = talk.offers(0, 128, 0, 1, 20);
    Check.same("only offered", talk.room.deals(), 0);
    talk.replies(1, ParleyRoom.ACCEPT, offer);
    Check.same("accepted", talk.room.deals(), 1);
    offer = talk.offers(1, 128, 0, 0, 20);
    talk.replies(0, ParleyRoom.REJECT, offer);
    Check.same("rejected", talk.room.deals(), 1);
    offer = talk.offers(1, 128, 0, 0, 20);
    talk.room.give(7, NONE);
    talk.replies(0, ParleyRoom.ACCEPT, offer);
    Check.same("accepted in vain", talk.room.deals(), 1);
    talk.room.give(7, 1);
    offer = talk.offers(1, 128, 0, 0, 20);
    int accept = talk.say(0, ParleyRoom.ACCEPT, offer, 0);
    Check.same("only said", talk.room.deals(), 1);
    talk.room.give(7, 3);
    talk.room.give(7, 1);
    talk.room.tick(1);
    Check.same("owned again in time", talk.room.turn(accept, 3), 1);
    Check.same("accepted again", talk.room.deals(), 2);
  }

  private static void minutes() {
    String promise = "Promise 28: minutes";
    Edges.of(promise, "7 at first", () -> {
      Check.same("at first", new ParleyRoom().minutes(), 7);
      ParleyRoom room = new ParleyRoom();
      room.tick(20);
      Check.same("without turns", room.minutes(), 7);
    });
    Edges.of(promise, "for each turn by number, and for its speaker, its act, what it is about, its"
        + " value, to whom it is, and what it is, one behind the other, it becomes 31 times itself"
        + " and that number, with overflow.", AskingEdgeTests::minutesWithOverflow);
  }

  /** The due sum is made of whole numbers without a bound, and cut to 32 bits at the end. */
  private static void minutesWithOverflow() {
    Talk talk = new Talk();
    BigInteger due = BigInteger.valueOf(7);
    int[] odd = {LEAST, -1, 0, GREATEST};
    talk.asserts(0, 9, NO);
    due = TermEdgeTests.added(due, 0, 0, 9, NO, 14, ParleyRoom.DONE);
    Check.same("one turn is more than an int", due.bitLength() > 31, true);
    Check.same("one turn", talk.room.minutes(), due.intValue());
    for (int i = 0; i < 49; i++) {
      talk.does(0, ParleyRoom.ASK, i % 10, odd[i % 4], 2, NONE);
      due = TermEdgeTests.added(due, 0, 1, i % 10, odd[i % 4], 2, ParleyRoom.DONE);
      Check.same("asked", talk.room.minutes(), due.intValue());
      talk.does(1, ParleyRoom.ANSWER, odd[i % 4], 0, 13, NONE);
      due = TermEdgeTests.added(due, 1, 2, i % 10, 0, 13, ParleyRoom.DONE);
      Check.same("answered", talk.room.minutes(), due.intValue());
    }
    talk.say(1, ParleyRoom.ACK, 0, LEAST);
    due = TermEdgeTests.added(due, 1, 4, 0, LEAST, 13, ParleyRoom.SAID);
    Check.same("100 turns", talk.room.minutes(), due.intValue());
    talk.room.tick(1);
    due = due.add(BigInteger.valueOf(ParleyRoom.DONE - ParleyRoom.SAID));
    Check.same("100 turns, the last one done", talk.room.minutes(), due.intValue());
  }
}
