/**
 * Runs of calls by fixed sequences of numbers: what must hold behind any run, that nothing is
 * thrown but what the document names, and that what must not matter does not.
 */
final class RandomRunTests {
  private static final int RUNS = 400;
  private static final int LONG = 150;
  /** So short that with all that is asked behind it, it stays below 512 calls. */
  private static final int SHORT = 60;
  private static final int RUNS_IN_OTHER_WAYS = 100;

  private RandomRunTests() {}

  static void run() {
    for (int seed = 1; seed <= RUNS; seed++) {
      Check.same("run " + seed, fault(seed), "");
    }
    for (int seed = 1; seed <= RUNS_IN_OTHER_WAYS; seed++) {
      otherWays(RUNS + seed);
    }
  }

  private static String fault(long seed) {
    try {
      String bad = RandomRun.fault(seed, LONG);
      for (int steps = LONG / 3; steps <= LONG && bad.isEmpty(); steps += LONG / 3) {
        bad = commitmentsFit(RandomRun.room(seed, steps, RandomRun.Way.PLAIN));
        if (bad.isEmpty()) {
          bad = turnsFit(RandomRun.room(seed, steps, RandomRun.Way.PLAIN));
        }
      }
      return bad;
    } catch (RuntimeException e) {
      return "threw " + e;
    }
  }

  private static void otherWays(long seed) {
    String plain = whole(seed, RandomRun.Way.PLAIN);
    for (RandomRun.Way way : RandomRun.Way.values()) {
      Check.same("run " + seed + " " + way, whole(seed, way).equals(plain), true);
    }
  }

  private static String whole(long seed, RandomRun.Way way) {
    return Whole.of(() -> RandomRun.room(seed, SHORT, way));
  }

  private static String commitmentsFit(ParleyRoom room) {
    for (int speaker = 0; speaker < 4; speaker++) {
      for (int atom = 0; atom < 10; atom++) {
        int stand = room.stand(speaker, atom);
        if (stand != room.standAnew(speaker, atom)) {
          return "stand is not standAnew";
        }
        if ((stand == 0) != (room.standBy(speaker, atom) == -1)) {
          return "stand does not fit standBy";
        }
        if (room.ground(1 << speaker, atom) != stand) {
          return "ground of one is not what it is committed to";
        }
        if (stand == 0 && room.isSupported(speaker, atom)) {
          return "supported without a commitment";
        }
      }
    }
    return room.questions() <= 6 ? "" : "too many questions";
  }

  /** The latest turns, so that the calls stay below 512. */
  private static String turnsFit(ParleyRoom room) {
    room.tick(1);
    int said = room.said();
    for (int turn = Math.max(0, said - 30); turn < said; turn++) {
      int state = room.turn(turn, 6);
      boolean carriedOut = state == ParleyRoom.DONE || state == ParleyRoom.CHALLENGED;
      if (state == ParleyRoom.SAID) {
        return "SAID behind a tick";
      }
      if (carriedOut != (room.turn(turn, 7) != -1)) {
        return "clock does not fit what it is";
      }
      for (int hearer = 0; hearer < 4; hearer++) {
        boolean due = carriedOut && (room.turn(turn, 4) >> hearer & 1) == 1;
        if (due != (room.heard(turn, hearer) != 0)) {
          return "delivered to the wrong ones";
        }
      }
    }
    return "";
  }
}
