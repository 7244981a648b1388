/**
 * Long runs of calls by a fixed sequence of numbers: what must hold of any run, and that nothing is
 * thrown but what the document names.
 */
final class RandomRunTests {
  private static final int RUNS = 400;
  private static final int CALLS = 512;

  private long seed;

  private RandomRunTests(long seed) {
    this.seed = seed;
  }

  static void run() {
    for (int i = 1; i <= RUNS; i++) {
      new RandomRunTests(i).oneRun(i);
    }
  }

  private int below(int bound) {
    seed = seed * 6364136223846793005L + 1442695040888963407L;
    return (int) ((seed >>> 33) % bound);
  }

  private void oneRun(int run) {
    ParleyRoom room = new ParleyRoom();
    String bad = "";
    try {
      for (int call = 0; call < CALLS && bad.isEmpty(); call++) {
        bad = oneCall(room);
      }
    } catch (RuntimeException e) {
      bad = "threw " + e;
    }
    Check.same("run " + run, bad, "");
  }

  /** Returns what is wrong, or nothing. */
  private String oneCall(ParleyRoom room) {
    switch (below(12)) {
      case 0:
        tellOfSpeaker(room);
        return "";
      case 1:
        room.give(below(8), below(5) - 1);
        return "";
      case 2:
      case 3:
      case 4:
        int before = room.clock();
        int ticks = below(8) == 0 ? 1 + below(7) : 1;
        return room.tick(ticks) == before + ticks ? invariants(room) : "wrong clock";
      default:
        return oneTurn(room);
    }
  }

  private void tellOfSpeaker(ParleyRoom room) {
    int speaker = below(4);
    switch (below(5)) {
      case 0:
        room.power(speaker, below(10));
        break;
      case 1:
        int speaks = below(3);
        room.knows(speaker, 1 << speaks | below(8), speaks, below(2) == 0);
        break;
      case 2:
        room.believe(speaker, below(10), below(3));
        break;
      case 3:
        room.deafen(speaker, below(6));
        break;
      default:
        room.strict(below(3) == 0);
        break;
    }
  }

  /** Few atoms and many wrong arguments: say must do what can has told. */
  private String oneTurn(ParleyRoom room) {
    int speaker = below(40) == 0 ? 4 : below(4);
    int act = below(40) == 0 ? 16 : below(16);
    boolean toOne = act == ParleyRoom.ASK || act == ParleyRoom.OFFER || below(3) == 0;
    int to = below(30) == 0 ? below(17) : toOne ? 1 << (speaker + 1 + below(3)) % 4
        : 15 & ~(1 << speaker);
    boolean ofTurn = act >= ParleyRoom.ACK && act <= ParleyRoom.DENY || act >= ParleyRoom.ACCEPT;
    int about = ofTurn ? room.said() - 1 - below(6) : below(act == ParleyRoom.OFFER ? 256 : 5);
    int value = below(4);
    int given = act == ParleyRoom.OFFER ? below(22) : below(3) == 0 ? below(5) : -1;
    int turns = room.said();
    int told = tryCan(room, speaker, act, about, value, to, given);
    int done = trySay(room, speaker, act, about, value, to, given);
    if (told != done) {
      return "can told " + told + ", say did " + done;
    }
    return room.said() == turns + (done == 1 ? 1 : 0) ? "" : "wrong number of turns";
  }

  private static int tryCan(ParleyRoom room, int... a) {
    try {
      return room.can(a[0], a[1], a[2], a[3], a[4], a[5]) ? 1 : 0;
    } catch (IndexOutOfBoundsException e) {
      return 2;
    } catch (IllegalArgumentException e) {
      return 3;
    }
  }

  private static int trySay(ParleyRoom room, int... a) {
    int turns = room.said();
    try {
      return room.say(a[0], a[1], a[2], a[3], a[4], a[5]) == turns ? 1 : 4;
    } catch (IndexOutOfBoundsException e) {
      return 2;
    } catch (IllegalArgumentException e) {
      return 3;
    } catch (IllegalStateException e) {
      return 0;
    }
  }

  private static String invariants(ParleyRoom room) {
    for (int speaker = 0; speaker < 4; speaker++) {
      for (int atom = 0; atom < 10; atom++) {
        int stand = room.stand(speaker, atom);
        if (stand != room.standAnew(speaker, atom)) {
          return "stand is not standAnew";
        }
        if ((stand == 0) != (room.standBy(speaker, atom) == -1)) {
          return "stand does not fit standBy";
        }
        if (room.ground(1 << speaker, atom) != stand) {
          return "ground of one is not what it is committed to";
        }
        if (stand == 0 && room.isSupported(speaker, atom)) {
          return "supported without a commitment";
        }
      }
    }
    return turnsFit(room);
  }

  private static String turnsFit(ParleyRoom room) {
    for (int turn = 0; turn < room.said(); turn++) {
      int state = room.turn(turn, 6);
      boolean carriedOut = state == ParleyRoom.DONE || state == ParleyRoom.CHALLENGED;
      if (state == ParleyRoom.SAID) {
        return "SAID behind a tick";
      }
      if (carriedOut != (room.turn(turn, 7) != -1)) {
        return "clock does not fit what it is";
      }
      for (int hearer = 0; hearer < 4; hearer++) {
        boolean due = carriedOut && (room.turn(turn, 4) >> hearer & 1) == 1;
        if (due != (room.heard(turn, hearer) != 0)) {
          return "delivered to the wrong ones";
        }
      }
    }
    return room.questions() <= 6 ? "" : "too many questions";
  }
}
