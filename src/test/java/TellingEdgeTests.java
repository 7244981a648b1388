/** What promises 1 to 7 and 10 tell of edges, sentence by sentence. */
final class TellingEdgeTests {
  private static final int YES = ParleyRoom.YES;
  private static final int NO = ParleyRoom.NO;
  private static final int NONE = ParleyRoom.NONE;

  private TellingEdgeTests() {}

  static void run() {
    Edges.of("Promise 1: A new object",
        "`ParleyRoom()`: Nothing was said; the rules are not strict.",
        TellingEdgeTests::newObject);
    power();
    knows();
    believe();
    deafen();
    give();
    Edges.of("Promise 7: strict",
        "`boolean strict(boolean is)`: Makes the rules strict, or not; returns whether they were.",
        TellingEdgeTests::strict);
    tick();
  }

  private static void newObject() {
    ParleyRoom made = new ParleyRoom();
    Check.same("turns", made.said(), 0);
    Check.same("right", made.next(), NONE);
    Check.same("questions", made.questions(), 0);
    Check.same("quarrels", made.quarrels(), 0);
    Check.same("deals", made.deals(), 0);
    Check.same("strict", made.strict(true), false);
    Check.same("another one", new ParleyRoom().strict(true), false);
    Refusals.noSuch(Scenes.NEW, "turn 0", room -> room.turn(0, 0));
    Refusals.noSuch(Scenes.NEW, "heard of 0", room -> room.heard(0, 0));
    Refusals.noSuch(Scenes.NEW, "question 0", room -> room.question(0, 0));
    Refusals.outOfRange(Scenes.NEW, Saying.of(1, ParleyRoom.ACK, 0, 0, 1, NONE));
  }

  private static void power() {
    String promise = "Promise 2: power";
    Edges.speaker(promise, (room, speaker) -> room.power(speaker, 5));
    Edges.of(promise, "- `power`: 0 to 9",
        () -> Edges.takes(0, 9, (room, power) -> room.power(3, power)));
    Edges.of(promise, "Throws `IllegalArgumentException` if power is out of range",
        () -> Edges.outOfRange(0, 9, (room, power) -> room.power(0, power)));
    Edges.of(promise, "Returns the power before.", TellingEdgeTests::powerBefore);
  }

  private static void powerBefore() {
    ParleyRoom room = new ParleyRoom();
    Check.same("at first", room.power(2, 9), 0);
    Check.outOfRange(room, "refused", () -> room.power(2, 10));
    Check.same("the greatest, also behind a refusal", room.power(2, 0), 9);
    Check.same("the least", room.power(2, 9), 0);
  }

  private static void knows() {
    String promise = "Promise 3: knows";
    Edges.speaker(promise, (room, speaker) -> room.knows(speaker, 7, 1, true));
    Edges.of(promise, "- `languages`: those that it knows, as a set of bits, 1 to 7",
        TellingEdgeTests::languages);
    Edges.of(promise, "- `speaks`: 0 to 2: the one that it speaks, one of these",
        () -> Edges.takes(0, 2, (room, speaks) -> room.knows(0, 1 << speaks, speaks, false)));
    Edges.of(promise, "- `interprets`: whether it interprets", TellingEdgeTests::interprets);
    Edges.of(promise, "Returns those that it knew.", TellingEdgeTests::languagesBefore);
    Edges.of(promise, "Throws `IllegalArgumentException` if languages or speaks is out of range,"
        + " or speaks is not one of them", TellingEdgeTests::languagesRefused);
  }

  private static void languages() {
    for (int languages = 1; languages <= 7; languages++) {
      for (int speaks = 0; speaks <= 2; speaks++) {
        if ((languages >> speaks & 1) == 1) {
          ParleyRoom room = new ParleyRoom();
          Check.same("knows before", room.knows(0, languages, speaks, true), 1);
          Check.same("knows " + languages, room.knows(0, 1, 0, true), languages);
        }
      }
    }
  }

  private static int heardThrough(boolean interprets) {
    Talk talk = new Talk();
    talk.room.knows(0, 2, 1, false);
    talk.room.knows(2, 3, 0, true);
    talk.room.knows(2, 3, 0, interprets);
    return talk.room.heard(talk.hints(0, 0, YES), 1);
  }

  private static void interprets() {
    Check.same("interpreted", heardThrough(true), ParleyRoom.COMING);
    Check.same("not interpreted", heardThrough(false), ParleyRoom.MISSED);
  }

  private static void languagesBefore() {
    ParleyRoom room = new ParleyRoom();
    Check.same("at first", room.knows(3, 7, 2, false), 1);
    Check.outOfRange(room, "refused", () -> room.knows(3, 2, 0, false));
    Check.same("all, also behind a refusal", room.knows(3, 4, 2, false), 7);
    Check.same("one", room.knows(3, 1, 0, false), 4);
  }

  private static void languagesRefused() {
    Edges.outOfRange(1, 7, (room, languages) -> room.knows(0, languages, 0, true));
    Edges.outOfRange(0, 2, (room, speaks) -> room.knows(0, 7, speaks, true));
    Refusals.outOfRange(Scenes.NEW, "32, which a shift takes for 0",
        room -> room.knows(0, 7, 32, true));
    for (int languages = 1; languages <= 7; languages++) {
      for (int speaks = 0; speaks <= 2; speaks++) {
        int set = languages;
        int one = speaks;
        if ((set >> one & 1) == 0) {
          Refusals.outOfRange(Scenes.BUSY, "knows " + set + ", speaks " + one,
              room -> room.knows(3, set, one, true));
        }
      }
    }
  }

  private static void believe() {
    String promise = "Promise 4: believe";
    Edges.speakerAndAtom(promise,
        (room, speaker) -> room.believe(speaker, 0, NO), (room, atom) -> room.believe(0, atom, NO));
    Edges.of(promise, "- `value`: YES, NO, or 0 for nothing",
        () -> Edges.takes(0, 2, (room, value) -> room.believe(3, 9, value)));
    Edges.of(promise, "Throws `IllegalArgumentException` if value is out of range",
        () -> Edges.outOfRange(0, 2, (room, value) -> room.believe(0, 0, value)));
    Edges.of(promise, "Returns what it believed.", TellingEdgeTests::believedBefore);
  }

  private static void believedBefore() {
    ParleyRoom room = new ParleyRoom();
    Check.same("at first", room.believe(0, 9, NO), 0);
    Check.outOfRange(room, "refused", () -> room.believe(0, 9, 3));
    Check.same("NO, also behind a refusal", room.believe(0, 9, YES), NO);
    Check.same("YES", room.believe(0, 9, 0), YES);
    Check.same("nothing", room.believe(0, 9, 0), 0);
  }

  private static void deafen() {
    String promise = "Promise 5: deafen";
    Edges.speaker(promise, (room, speaker) -> room.deafen(speaker, 20));
    Edges.of(promise, "- `ticks`: 0 to 20; 0 for not deaf", TellingEdgeTests::deafFor);
    Edges.of(promise, "Makes a speaker deaf from now on, until the clock is so much more.",
        TellingEdgeTests::deafUntil);
    Edges.of(promise, "Returns the clock until which it is.", TellingEdgeTests::deafenReturns);
    Edges.of(promise, "Throws `IllegalArgumentException` if ticks is out of range",
        () -> Edges.outOfRange(0, 20, (room, ticks) -> room.deafen(0, ticks)));
  }

  private static int heardByOne(Talk talk) {
    return talk.room.heard(talk.hints(0, 0, YES), 1);
  }

  private static void deafFor() {
    Edges.takes(0, 20, (room, ticks) -> room.deafen(3, ticks));
    Talk talk = new Talk();
    talk.room.deafen(1, 20);
    Check.same("deaf", heardByOne(talk), ParleyRoom.MISSED);
    talk.room.deafen(1, 0);
    Check.same("not deaf any more", heardByOne(talk), ParleyRoom.HEARD);
  }

  private static void deafUntil() {
    for (int ticks = 1; ticks <= 20; ticks++) {
      Talk talk = new Talk();
      talk.room.tick(3);
      talk.room.deafen(1, ticks);
      if (ticks > 1) {
        talk.room.tick(ticks - 1);
      }
      Check.same("1 tick before", heardByOne(talk), ParleyRoom.MISSED);
      Check.same("at that clock", heardByOne(talk), ParleyRoom.HEARD);
    }
  }

  private static void deafenReturns() {
    ParleyRoom room = new ParleyRoom();
    Check.same("0 at clock 0", room.deafen(0, 0), 0);
    Check.same("20 at clock 0", room.deafen(0, 20), 20);
    room.tick(20);
    Check.same("0 at clock 20", room.deafen(0, 0), 20);
    Check.same("1 at clock 20", room.deafen(0, 1), 21);
    Check.same("20 at clock 20", room.deafen(0, 20), 40);
    Check.same("less than it was", room.deafen(0, 2), 22);
  }

  private static void give() {
    String promise = "Promise 6: give";
    Edges.of(promise, "- `good`: 0 to 7",
        () -> Edges.takes(0, 7, (room, good) -> room.give(good, 3)));
    Edges.of(promise, "- `owner`: 0 to 3, or NONE",
        () -> Edges.takes(-1, 3, (room, owner) -> room.give(7, owner)));
    Edges.of(promise, "Gives a good an owner, or takes it from all.", TellingEdgeTests::given);
    Edges.of(promise, "Returns the owner before; NONE without one.",
        TellingEdgeTests::ownerBefore);
    Edges.of(promise, "Throws `IndexOutOfBoundsException` if there is no such good or speaker",
        TellingEdgeTests::giveRefused);
  }

  private static void given() {
    ParleyRoom room = new ParleyRoom();
    for (int good = 0; good < 8; good++) {
      for (int owner = -1; owner < 4; owner++) {
        room.give(good, owner);
        Check.same("owner of " + good, room.owner(good), owner);
      }
    }
  }

  private static void ownerBefore() {
    ParleyRoom room = new ParleyRoom();
    Check.same("without one", room.give(0, NONE), NONE);
    Check.same("still without one", room.give(0, 3), NONE);
    Check.noSuch(room, "refused", () -> room.give(0, 4));
    Check.same("with one, also behind a refusal", room.give(0, 0), 3);
    Check.same("taken from all", room.give(0, NONE), 0);
    Check.same("without one again", room.give(0, 1), NONE);
  }

  private static void giveRefused() {
    Edges.noSuch(0, 7, (room, good) -> room.give(good, 0));
    Edges.noSuch(0, 7, (room, good) -> room.give(good, NONE));
    Edges.noSuch(-1, 3, (room, owner) -> room.give(0, owner));
  }

  private static void strict() {
    ParleyRoom room = new ParleyRoom();
    Check.same("not at first", room.strict(false), false);
    Check.same("not yet", room.strict(true), false);
    Check.same("already", room.strict(true), true);
    Check.same("until now", room.strict(false), true);
    Check.same("not any more", room.strict(false), false);
  }

  private static void tick() {
    String promise = "Promise 10: tick";
    Edges.of(promise, "- `ticks`: 1 to 20",
        () -> Edges.takes(1, 20, (room, ticks) -> room.tick(ticks)));
    Edges.of(promise, "`int tick(int ticks) throws IllegalArgumentException`: Lets ticks go by.",
        TellingEdgeTests::ticksInOne);
    Edges.of(promise, "Returns the clock.", TellingEdgeTests::tickReturns);
    Edges.of(promise, "Throws `IllegalArgumentException` if ticks is out of range",
        () -> Edges.outOfRange(1, 20, (room, ticks) -> room.tick(ticks)));
  }

  private static ParleyRoom busyBehind(int calls, int ticks) {
    ParleyRoom room = Scenes.BUSY.get();
    for (int i = 0; i < calls; i++) {
      room.tick(ticks);
    }
    return room;
  }

  private static void ticksInOne() {
    for (int ticks = 1; ticks <= 20; ticks++) {
      int number = ticks;
      Check.same(ticks + " in one call are as one by one",
          Whole.of(() -> busyBehind(1, number)).equals(Whole.of(() -> busyBehind(number, 1))),
          true);
    }
  }

  private static void tickReturns() {
    ParleyRoom room = new ParleyRoom();
    Check.same("the first", room.tick(1), 1);
    Check.same("20 more", room.tick(20), 21);
    Check.outOfRange(room, "refused", () -> room.tick(21));
    Check.same("behind a refusal", room.tick(1), 22);
  }
}
