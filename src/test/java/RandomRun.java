/** Calls by a fixed sequence of numbers, the same for the same seed. */
final class RandomRun {
  /** How the same run is made in another way, which must not matter. */
  enum Way { PLAIN, WITH_REFUSED_CALLS, WITH_QUESTIONS, TICK_BY_TICK }

  private final ParleyRoom room = new ParleyRoom();
  private final Way way;
  private long seed;
  private int said;
  private String bad = "";

  private RandomRun(long seed, Way way) {
    this.seed = seed;
    this.way = way;
  }

  static ParleyRoom room(long seed, int steps, Way way) {
    return of(seed, steps, way).room;
  }

  /** What was wrong within the run, or nothing. */
  static String fault(long seed, int steps) {
    return of(seed, steps, Way.PLAIN).bad;
  }

  private static RandomRun of(long seed, int steps, Way way) {
    RandomRun run = new RandomRun(seed, way);
    for (int step = 0; step < steps && run.bad.isEmpty(); step++) {
      run.oneStep();
      if (way == Way.WITH_REFUSED_CALLS) {
        run.refusedCall(step);
      } else if (way == Way.WITH_QUESTIONS) {
        run.question(step);
      }
    }
    return run;
  }

  private int below(int bound) {
    seed = seed * 6364136223846793005L + 1442695040888963407L;
    return (int) ((seed >>> 33) % bound);
  }

  private void oneStep() {
    switch (below(12)) {
      case 0:
        tellOfSpeaker();
        break;
      case 1:
        room.give(below(8), below(5) - 1);
        break;
      case 2:
      case 3:
      case 4:
        letTicksGoBy(below(8) == 0 ? 1 + below(7) : 1);
        break;
      default:
        oneTurn();
        break;
    }
  }

  private void letTicksGoBy(int ticks) {
    if (way != Way.TICK_BY_TICK) {
      room.tick(ticks);
      return;
    }
    for (int i = 0; i < ticks; i++) {
      room.tick(1);
    }
  }

  private void tellOfSpeaker() {
    int speaker = below(4);
    switch (below(5)) {
      case 0:
        room.power(speaker, below(10));
        break;
      case 1:
        int speaks = below(3);
        room.knows(speaker, 1 << speaks | below(8), speaks, below(2) == 0);
        break;
      case 2:
        room.believe(speaker, below(10), below(3));
        break;
      case 3:
        room.deafen(speaker, below(6));
        break;
      default:
        room.strict(below(3) == 0);
        break;
    }
  }

  /** Few atoms and many wrong arguments: say must do what can has told. */
  private void oneTurn() {
    int speaker = below(40) == 0 ? 4 : below(4);
    int act = below(40) == 0 ? 16 : below(16);
    boolean toOne = act == ParleyRoom.ASK || act == ParleyRoom.OFFER || below(3) == 0;
    int to = below(30) == 0 ? below(17) : toOne ? 1 << (speaker + 1 + below(3)) % 4
        : 15 & ~(1 << speaker);
    boolean ofTurn = act >= ParleyRoom.ACK && act <= ParleyRoom.DENY || act >= ParleyRoom.ACCEPT;
    int about = ofTurn ? said - 1 - below(6) : below(act == ParleyRoom.OFFER ? 256 : 5);
    int value = below(4);
    int given = act == ParleyRoom.OFFER ? below(22) : below(3) == 0 ? below(5) : -1;
    Saying saying = Saying.of(speaker, act, about, value, to, given);
    String told = way == Way.PLAIN ? can(saying) : "";
    String done = say(saying);
    if (way == Way.PLAIN && !told.equals(done)) {
      bad = "can told " + told + ", say did " + done;
    }
  }

  private String can(Saying saying) {
    try {
      return saying.can(room) ? "fine" : "not now";
    } catch (IndexOutOfBoundsException e) {
      return "no such speaker";
    } catch (IllegalArgumentException e) {
      return "out of range";
    }
  }

  private String say(Saying saying) {
    try {
      int number = saying.say(room);
      said++;
      return number == said - 1 ? "fine" : "wrong number";
    } catch (IndexOutOfBoundsException e) {
      return "no such speaker";
    } catch (IllegalArgumentException e) {
      return "out of range";
    } catch (IllegalStateException e) {
      return "not now";
    }
  }

  private void refusedCall(int number) {
    try {
      refuse(number % 12, number % 4);
      bad = "call " + number % 12 + " was not refused";
    } catch (IndexOutOfBoundsException | IllegalArgumentException | IllegalStateException e) {
      // as it should be
    }
  }

  private void refuse(int which, int speaker) {
    switch (which) {
      case 0:
        room.power(speaker, 10);
        break;
      case 1:
        room.knows(speaker, 6, 0, true);
        break;
      case 2:
        room.believe(speaker, 0, 3);
        break;
      case 3:
        room.deafen(speaker, 21);
        break;
      case 4:
        room.give(0, 4);
        break;
      case 5:
        room.tick(21);
        break;
      case 6:
        room.say(speaker, ParleyRoom.ASSERT, 0, 1, 15, -1);
        break;
      case 7:
        room.say(4, ParleyRoom.ASSERT, 0, 1, 1, -1);
        break;
      case 8:
        room.say(speaker, ParleyRoom.OFFER, 255, 255, 1 << (speaker + 1) % 4, 5);
        break;
      case 9:
        room.can(speaker, ParleyRoom.ACK, said, 0, 1 << (speaker + 1) % 4, -1);
        break;
      case 10:
        room.turn(said, 0);
        break;
      default:
        room.question(6, 0);
        break;
    }
  }

  private void question(int number) {
    int speaker = number % 4;
    int atom = number % 10;
    room.can(speaker, number % 2, atom, 1, 1 << (speaker + 1) % 4, -1);
    room.standAnew(speaker, atom);
    room.ground(1 + number % 15, atom);
    room.isSupported(speaker, atom);
  }
}
