/** Promises 8 and 9: which arguments of can and say are refused, and with what. */
final class ArgumentTests {
  private static final int NONE = ParleyRoom.NONE;
  private static final int[] ABOUT_A_TURN = {
    ParleyRoom.ACK, ParleyRoom.CLARIFY, ParleyRoom.REPEAT, ParleyRoom.CONCEDE, ParleyRoom.DENY,
    ParleyRoom.ACCEPT, ParleyRoom.REJECT
  };
  private static final int[] ABOUT_AN_ATOM = {
    ParleyRoom.ASSERT, ParleyRoom.BECAUSE, ParleyRoom.RETRACT, ParleyRoom.HINT, ParleyRoom.CANCEL
  };

  private ArgumentTests() {}

  static void run() {
    speakers();
    actsAndListeners();
    atoms();
    values();
    givens();
    turns();
    offers();
    whatIsNotTold();
  }

  private static void outOfRange(ParleyRoom room, int... a) {
    String what = a[0] + " says " + java.util.Arrays.toString(a);
    Check.outOfRange(room, "can: " + what, () -> room.can(a[0], a[1], a[2], a[3], a[4], a[5]));
    Check.outOfRange(room, "say: " + what, () -> room.say(a[0], a[1], a[2], a[3], a[4], a[5]));
  }

  private static void speakers() {
    ParleyRoom room = new ParleyRoom();
    for (int speaker : new int[] {-1, 4, Integer.MIN_VALUE, Integer.MAX_VALUE}) {
      Check.noSuch(room, "can of " + speaker, () -> room.can(speaker, 0, 0, 1, 1, NONE));
      Check.noSuch(room, "say of " + speaker, () -> room.say(speaker, 0, 0, 1, 1, NONE));
      Check.noSuch(room, "can of all wrong", () -> room.can(speaker, 16, 0, 1, 0, NONE));
      Check.noSuch(room, "say of all wrong", () -> room.say(speaker, 16, 0, 1, 0, NONE));
    }
  }

  private static void actsAndListeners() {
    ParleyRoom room = new ParleyRoom();
    outOfRange(room, 0, -1, 0, 1, 2, NONE);
    outOfRange(room, 0, 16, 0, 1, 2, NONE);
    for (int speaker = 0; speaker < 4; speaker++) {
      for (int to = -1; to <= 16; to++) {
        boolean fine = to >= 1 && to <= 15 && (to & 1 << speaker) == 0;
        if (fine) {
          Check.same("can to " + to, room.can(speaker, 0, 0, 1, to, NONE), true);
        } else {
          outOfRange(room, speaker, ParleyRoom.ASSERT, 0, 1, to, NONE);
          outOfRange(room, speaker, ParleyRoom.DROP, 0, 0, to, NONE);
        }
      }
    }
    outOfRange(room, 0, ParleyRoom.ASK, 0, 0, 6, NONE);
    outOfRange(room, 0, ParleyRoom.ASK, 0, 0, 14, NONE);
    Check.same("ask one", room.can(0, ParleyRoom.ASK, 0, 0, 8, NONE), true);
  }

  private static void atoms() {
    ParleyRoom room = new ParleyRoom();
    for (int act : ABOUT_AN_ATOM) {
      outOfRange(room, 0, act, -1, 1, 2, NONE);
      outOfRange(room, 0, act, 10, 1, 2, NONE);
    }
    outOfRange(room, 0, ParleyRoom.ASK, -1, 1, 2, NONE);
    outOfRange(room, 0, ParleyRoom.ASK, 10, 1, 2, NONE);
    Check.same("assert 0", room.can(0, ParleyRoom.ASSERT, 0, 1, 2, NONE), true);
    Check.same("assert 9", room.can(0, ParleyRoom.ASSERT, 9, 2, 2, NONE), true);
  }

  private static void values() {
    ParleyRoom room = new ParleyRoom();
    for (int value : new int[] {-1, 0, 3}) {
      outOfRange(room, 0, ParleyRoom.ASSERT, 0, value, 2, NONE);
      outOfRange(room, 0, ParleyRoom.HINT, 0, value, 2, NONE);
    }
    outOfRange(room, 0, ParleyRoom.ANSWER, 0, -1, 2, NONE);
    outOfRange(room, 0, ParleyRoom.ANSWER, 0, 3, 2, NONE);
    outOfRange(room, 0, ParleyRoom.BECAUSE, 4, 4, 2, NONE);
    outOfRange(room, 0, ParleyRoom.BECAUSE, 4, -1, 2, NONE);
    outOfRange(room, 0, ParleyRoom.BECAUSE, 4, 10, 2, NONE);
    Check.same("hint no", room.can(0, ParleyRoom.HINT, 0, 2, 2, NONE), true);
    Check.notNow(room, "answer 0", () -> room.say(0, ParleyRoom.ANSWER, 0, 0, 2, NONE));
    Check.notNow(room, "answer 2", () -> room.say(0, ParleyRoom.ANSWER, 0, 2, 2, NONE));
    Check.notNow(room, "because", () -> room.say(0, ParleyRoom.BECAUSE, 4, 0, 2, NONE));
  }

  private static void givens() {
    ParleyRoom room = new ParleyRoom();
    for (int given : new int[] {-2, 10}) {
      outOfRange(room, 0, ParleyRoom.ASSERT, 0, 1, 2, given);
      outOfRange(room, 0, ParleyRoom.ASK, 0, 0, 2, given);
    }
    for (int given : new int[] {NONE, 0, 9}) {
      Check.same("assert given", room.can(0, ParleyRoom.ASSERT, 0, 1, 2, given), true);
      Check.same("ask given", room.can(0, ParleyRoom.ASK, 0, 0, 2, given), true);
    }
  }

  private static void turns() {
    Talk talk = new Talk();
    for (int act : ABOUT_A_TURN) {
      outOfRange(talk.room, 1, act, 0, 0, 1, NONE);
    }
    talk.asserts(0, 0, 1);
    for (int act : ABOUT_A_TURN) {
      outOfRange(talk.room, 1, act, -1, 0, 1, NONE);
      outOfRange(talk.room, 1, act, 1, 0, 1, NONE);
      boolean fine = act == ParleyRoom.ACK || act == ParleyRoom.CONCEDE || act == ParleyRoom.DENY;
      Check.same("reply by " + act, talk.room.can(1, act, 0, 0, 1, NONE), fine);
    }
  }

  private static void offers() {
    ParleyRoom room = new ParleyRoom();
    room.give(0, 0);
    room.give(7, 1);
    int offer = ParleyRoom.OFFER;
    outOfRange(room, 0, offer, 0, 0, 2, 5);
    outOfRange(room, 0, offer, 256, 0, 2, 5);
    outOfRange(room, 0, offer, -1, 0, 2, 5);
    outOfRange(room, 0, offer, 1, 256, 2, 5);
    outOfRange(room, 0, offer, 1, -1, 2, 5);
    outOfRange(room, 0, offer, 1, 128, 2, 0);
    outOfRange(room, 0, offer, 1, 128, 2, 21);
    outOfRange(room, 0, offer, 1, 128, 6, 5);
    Check.same("offer for 1 tick", room.can(0, offer, 1, 128, 2, 1), true);
    Check.same("offer for 20 ticks", room.can(0, offer, 1, 128, 2, 20), true);
    Check.same("offer for nothing", room.can(0, offer, 1, 0, 2, 5), true);
    Check.same("offer of nothing", room.can(0, offer, 0, 128, 2, 5), true);
    Check.notNow(room, "offer of what it has not", () -> room.say(0, offer, 128, 0, 2, 5));
    Check.notNow(room, "offer of all", () -> room.say(0, offer, 255, 0, 2, 5));
  }

  private static void whatIsNotTold() {
    Talk talk = new Talk();
    int ask = talk.does(0, ParleyRoom.ASK, 3, -77, 2, NONE);
    Check.same("value of an ask", talk.room.turn(ask, 3), -77);
    int answer = talk.does(1, ParleyRoom.ANSWER, 55, 1, 4, 66);
    Check.same("given of an answer", talk.room.turn(answer, 5), 66);
    int retract = talk.does(1, ParleyRoom.RETRACT, 3, Integer.MIN_VALUE, 4, Integer.MAX_VALUE);
    Check.same("value of a retract", talk.room.turn(retract, 3), Integer.MIN_VALUE);
    Check.same("given of a retract", talk.room.turn(retract, 5), Integer.MAX_VALUE);
    Check.same("given of a hint",
        talk.room.turn(talk.does(1, ParleyRoom.HINT, 3, 1, 1, 10), 5), 10);
    talk.asks(0, 3, 1);
    Check.same("about of a drop",
        talk.room.turn(talk.does(0, ParleyRoom.DROP, 99, -9, 4, -8), 2), 99);
    Check.same("given of an ack",
        talk.room.turn(talk.does(1, ParleyRoom.ACK, ask, 123, 4, -8), 5), -8);
  }
}
