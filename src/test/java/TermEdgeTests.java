import java.math.BigInteger;

/** What the sections "What it is" and "Terms" tell of edges. */
final class TermEdgeTests {
  private static final String TERMS = "Terms";
  private static final int YES = ParleyRoom.YES;
  private static final int NO = ParleyRoom.NO;
  private static final int NONE = ParleyRoom.NONE;

  private TermEdgeTests() {}

  static void run() {
    Edges.of("What it is", "An object is used for at most 512 calls after it has been made",
        TermEdgeTests::manyCalls);
    Edges.of(TERMS, "A call that throws an exception changes nothing.",
        TermEdgeTests::refusedCalls);
    Edges.of(TERMS, "IndexOutOfBoundsException: there is no such speaker, atom, good, turn or"
        + " question.", TermEdgeTests::noSuch);
    Edges.of(TERMS, "IllegalArgumentException: another argument is out of its range.",
        TermEdgeTests::outOfRange);
    Edges.of(TERMS, "IllegalStateException: as the method says.", TermEdgeTests::notNow);
    Edges.of(TERMS, "If several apply, the one that the throws clause names first is thrown.",
        TermEdgeTests::several);
    Edges.of(TERMS, "There are the speakers 0 to 3, the atoms 0 to 9, which can be held to be so,"
        + " YES, or not, NO, and the goods 0 to 7, each with an owner, or none, at first none.",
        TermEdgeTests::whatThereIs);
    Edges.of(TERMS, "A speaker has a power, 0 at first; knows some of the languages 0 to 2, at"
        + " first 0 alone, and speaks one of them, 0; may interpret, at first not; may be deaf"
        + " until a clock; believes of each atom YES, NO or nothing, 0, as at first; and is"
        + " committed about each atom to YES, NO, or nothing, as at first, by a turn",
        TermEdgeTests::atFirst);
    Edges.of(TERMS, "(the latest one that commits it, also to what it is committed to already)",
        TermEdgeTests::latestTurn);
    Edges.of(TERMS, "The clock is 0 at first.",
        () -> Check.same("clock", new ParleyRoom().clock(), 0));
  }

  /** 100 turns, 100 ticks, and what is asked behind each: the last of 512 calls is as the first. */
  private static void manyCalls() {
    ParleyRoom room = new ParleyRoom();
    BigInteger sum = BigInteger.valueOf(7);
    int calls = 0;
    for (int i = 0; i < 100; i++) {
      int to = Talk.allBut(i % 4);
      Check.same("turn", room.say(i % 4, ParleyRoom.ASSERT, i % 10, NO, to, NONE), i);
      Check.same("tick", room.tick(1), i + 1);
      Check.same("stand", room.stand(i % 4, i % 10), NO);
      Check.same("heard", room.heard(i, (i + 1) % 4), ParleyRoom.HEARD);
      Check.same("standBy", room.standBy(i % 4, i % 10), i);
      sum = added(sum, i % 4, ParleyRoom.ASSERT, i % 10, NO, to, ParleyRoom.DONE);
      calls += 5;
    }
    for (; calls < 511; calls++) {
      Check.same("power", room.power(0, 0), 0);
    }
    Check.same("minutes, call 512", room.minutes(), sum.intValue());
  }

  static BigInteger added(BigInteger sum, int... numbers) {
    BigInteger more = sum;
    for (int number : numbers) {
      more = more.multiply(BigInteger.valueOf(31)).add(BigInteger.valueOf(number));
    }
    return more;
  }

  private static void refusedCalls() {
    Refusals.noSuch(Scenes.BUSY, "power", room -> room.power(4, 9));
    Refusals.outOfRange(Scenes.BUSY, "power", room -> room.power(1, 10));
    Refusals.noSuch(Scenes.BUSY, "knows", room -> room.knows(4, 7, 1, true));
    Refusals.outOfRange(Scenes.BUSY, "knows", room -> room.knows(1, 7, 3, true));
    Refusals.noSuch(Scenes.BUSY, "believe", room -> room.believe(1, 10, NO));
    Refusals.outOfRange(Scenes.BUSY, "believe", room -> room.believe(1, 1, 3));
    Refusals.noSuch(Scenes.BUSY, "deafen", room -> room.deafen(-1, 5));
    Refusals.outOfRange(Scenes.BUSY, "deafen", room -> room.deafen(1, 21));
    Refusals.noSuch(Scenes.BUSY, "give", room -> room.give(7, 4));
    Saying saying = Saying.of(1, ParleyRoom.ASSERT, 0, YES, 1, NONE);
    Refusals.noSuch(Scenes.BUSY, saying.by(4));
    Refusals.outOfRange(Scenes.BUSY, saying.value(0));
    Refusals.notNow(Scenes.BUSY, "said one already", saying.by(0).to(2));
    Refusals.notNow(Scenes.BUSY, "not possible", saying.act(ParleyRoom.CANCEL));
    Refusals.outOfRange(Scenes.BUSY, "tick", room -> room.tick(21));
    Refusals.noSuch(Scenes.BUSY, "turn", room -> room.turn(Scenes.BUSY_TURNS, 0));
    Refusals.outOfRange(Scenes.BUSY, "turn", room -> room.turn(0, 9));
    Refusals.noSuch(Scenes.BUSY, "heard", room -> room.heard(0, 4));
    Refusals.noSuch(Scenes.BUSY, "ground", room -> room.ground(1, 10));
    Refusals.outOfRange(Scenes.BUSY, "ground", room -> room.ground(16, 0));
    Refusals.noSuch(Scenes.BUSY, "question", room -> room.question(Scenes.BUSY_QUESTIONS, 0));
    Refusals.outOfRange(Scenes.BUSY, "question", room -> room.question(0, 4));
    Refusals.noSuch(Scenes.BUSY, "owner", room -> room.owner(8));
    Refusals.notNow(Scenes.FULL, "101 turns", saying);
  }

  private static void noSuch() {
    Edges.noSuch(0, 3, (room, speaker) -> room.lies(speaker));
    Edges.noSuch(0, 3, (room, speaker) -> room.believe(speaker, 0, YES));
    Edges.noSuch(0, 3, (room, speaker) -> room.stand(speaker, 0));
    Edges.noSuch(0, 9, (room, atom) -> room.believe(0, atom, YES));
    Edges.noSuch(0, 9, (room, atom) -> room.stand(0, atom));
    Edges.noSuch(0, 7, (room, good) -> room.owner(good));
    Edges.noSuch(0, 7, (room, good) -> room.give(good, NONE));
    for (int turn : Edges.beside(0, Scenes.BUSY_TURNS - 1)) {
      Refusals.noSuch(Scenes.BUSY, "turn", room -> room.turn(turn, 0));
      Refusals.noSuch(Scenes.BUSY, "heard", room -> room.heard(turn, 0));
    }
    for (int place : Edges.beside(0, Scenes.BUSY_QUESTIONS - 1)) {
      Refusals.noSuch(Scenes.BUSY, "question", room -> room.question(place, 0));
    }
  }

  private static void outOfRange() {
    Edges.outOfRange(0, 9, (room, power) -> room.power(0, power));
    Edges.outOfRange(1, 15, (room, set) -> room.ground(set, 0));
    Edges.outOfRange(1, 20, (room, ticks) -> room.tick(ticks));
    Refusals.outOfRange(Scenes.BUSY, "what of a turn", room -> room.turn(0, -1));
    Refusals.outOfRange(Scenes.BUSY, "what of a question", room -> room.question(0, -1));
    Saying saying = Saying.inRange(ParleyRoom.ASSERT).by(1);
    Refusals.outOfRange(Scenes.BUSY, saying.about(10));
    Refusals.outOfRange(Scenes.BUSY, saying.act(ParleyRoom.ACK).about(Scenes.BUSY_TURNS));
    Refusals.outOfRange(Scenes.BUSY, saying.to(2));
  }

  private static void notNow() {
    Saying saying = Saying.inRange(ParleyRoom.RETRACT);
    Refusals.notNow(Scenes.NEW, "not possible", saying);
    Refusals.notNow(Scenes.FULL, "100 turns", saying.act(ParleyRoom.ASSERT));
    Refusals.notNow(Scenes.BUSY, "said one already", saying.act(ParleyRoom.ASSERT).by(0).to(2));
  }

  /** From the last one named to the first: each call has one fault more than the one before. */
  private static void several() {
    Refusals.noSuch(Scenes.BUSY, "power", room -> room.power(4, 10));
    Refusals.noSuch(Scenes.BUSY, "knows", room -> room.knows(4, 8, 3, true));
    Refusals.noSuch(Scenes.BUSY, "believe, speaker", room -> room.believe(4, 0, 3));
    Refusals.noSuch(Scenes.BUSY, "believe, atom", room -> room.believe(0, 10, 3));
    Refusals.noSuch(Scenes.BUSY, "deafen", room -> room.deafen(4, 21));
    Refusals.noSuch(Scenes.BUSY, "turn", room -> room.turn(-1, 9));
    Refusals.noSuch(Scenes.BUSY, "ground", room -> room.ground(0, 10));
    Refusals.noSuch(Scenes.BUSY, "question", room -> room.question(6, 4));
    Saying impossible = Saying.of(0, ParleyRoom.RETRACT, 0, 0, 2, NONE);
    Refusals.notNow(Scenes.BUSY, "said one, not possible, not permitted", impossible);
    Refusals.outOfRange(Scenes.BUSY, impossible.about(10));
    Refusals.outOfRange(Scenes.BUSY, impossible.act(16));
    Refusals.outOfRange(Scenes.BUSY, impossible.to(1));
    Refusals.outOfRange(Scenes.FULL, impossible.to(16));
    Refusals.noSuch(Scenes.BUSY, impossible.act(16).to(0).by(4));
    Refusals.noSuch(Scenes.FULL, impossible.about(10).by(-1));
  }

  private static void whatThereIs() {
    for (int speaker = 0; speaker <= 3; speaker++) {
      for (int atom = 0; atom <= 9; atom++) {
        for (int value = YES; value <= NO; value++) {
          Talk talk = new Talk();
          talk.asserts(speaker, atom, value);
          Check.same("held", talk.room.stand(speaker, atom), value);
        }
      }
      for (int good = 0; good <= 7; good++) {
        ParleyRoom room = new ParleyRoom();
        Check.same("none at first", room.owner(good), NONE);
        room.give(good, speaker);
        Check.same("owned", room.owner(good), speaker);
      }
    }
  }

  private static void atFirst() {
    for (int speaker = 0; speaker <= 3; speaker++) {
      ParleyRoom room = new ParleyRoom();
      for (int atom = 0; atom <= 9; atom++) {
        Check.same("belief", room.believe(speaker, atom, 0), 0);
        Check.same("commitment", room.stand(speaker, atom), 0);
        Check.same("its turn", room.standBy(speaker, atom), NONE);
      }
      Check.same("power", room.power(speaker, 9), 0);
      Check.same("languages", room.knows(speaker, 7, 0, false), 1);
      languageAtFirst(speaker);
    }
  }

  /** That it does not interpret at first can not be seen: who knows 0 alone could not. */
  private static void languageAtFirst(int speaker) {
    int other = (speaker + 1) % 4;
    int third = (speaker + 2) % 4;
    Talk talk = new Talk();
    talk.room.knows(third, 6, 1, false);
    int turn = talk.hints(speaker, 0, YES);
    Check.same("speaks 0", talk.room.heard(turn, other), ParleyRoom.HEARD);
    Check.same("and no other", talk.room.heard(turn, third), ParleyRoom.MISSED);
    turn = talk.hints(other, 0, YES);
    Check.same("hears 0", talk.room.heard(turn, speaker), ParleyRoom.HEARD);
    turn = talk.hints(third, 0, YES);
    Check.same("but no other", talk.room.heard(turn, speaker), ParleyRoom.MISSED);
  }

  private static void latestTurn() {
    Talk talk = new Talk();
    talk.asserts(0, 0, YES);
    int again = talk.asserts(0, 0, YES);
    Check.same("to what it is committed to already", talk.room.standBy(0, 0), again);
    talk.say(0, ParleyRoom.ASSERT, 0, YES);
    Check.same("not by what is only said", talk.room.standBy(0, 0), again);
    talk.room.tick(1);
    Check.same("by the latest", talk.room.standBy(0, 0), again + 1);
    talk.does(0, ParleyRoom.RETRACT, 0, 0);
    Check.same("by none", talk.room.standBy(0, 0), NONE);
  }
}
