/** Promises 11, 13, 14, 22 and 28: the clock, the turns, common ground, and the minutes. */
final class AskingTests {
  private AskingTests() {}

  static void run() {
    turns();
    turnArguments();
    groundOfAll();
    groundByTaking();
    groundByOthersTurns();
    groundArguments();
    minutes();
  }

  private static void turn(Talk talk, int turn, int... due) {
    for (int what = 0; what < due.length; what++) {
      Check.same("turn " + turn + ", " + what, talk.room.turn(turn, what), due[what]);
    }
  }

  private static void turns() {
    Talk talk = new Talk();
    talk.room.tick(3);
    int turn = talk.room.say(2, ParleyRoom.ASSERT, 4, 2, 9, 6);
    turn(talk, turn, 2, 0, 4, 2, 9, 6, ParleyRoom.SAID, -1, 0);
    Check.same("said", talk.room.said(), 1);
    int lost = talk.room.say(3, ParleyRoom.ASK, 5, 44, 2, -1);
    Check.same("said two", talk.room.said(), 2);
    talk.room.tick(1);
    turn(talk, turn, 2, 0, 4, 2, 9, 6, ParleyRoom.DONE, 3, 0);
    turn(talk, lost, 3, 1, 5, 44, 2, -1, ParleyRoom.LOST, -1, 0);
    talk.room.give(0, 1);
    int offer = talk.offers(1, 1, 0, 3, 9);
    turn(talk, offer, 1, 13, 1, 0, 8, 9, ParleyRoom.DONE, 4, 1);
    int because = talk.does(2, ParleyRoom.BECAUSE, 4, 9);
    turn(talk, because, 2, 9, 4, 9, 11, -1, ParleyRoom.DONE, 5, 0);
    Check.same("said four", talk.room.said(), 4);
    Check.same("clock", talk.room.clock(), 6);
  }

  private static void turnArguments() {
    Talk talk = new Talk();
    Check.noSuch(talk.room, "no turn", () -> talk.room.turn(0, 0));
    talk.hints(0, 0, 1);
    Check.noSuch(talk.room, "turn -1", () -> talk.room.turn(-1, 0));
    Check.noSuch(talk.room, "turn 1", () -> talk.room.turn(1, 0));
    Check.noSuch(talk.room, "turn 1, what 9", () -> talk.room.turn(1, 9));
    Check.outOfRange(talk.room, "what -1", () -> talk.room.turn(0, -1));
    Check.outOfRange(talk.room, "what 9", () -> talk.room.turn(0, 9));
  }

  private static void ground(Talk talk, int set, int atom, int due) {
    Check.same("ground of " + set + " about " + atom, talk.room.ground(set, atom), due);
  }

  private static void groundOfAll() {
    Talk talk = new Talk();
    int claim = talk.asserts(0, 3, 2);
    ground(talk, Talk.to(0), 3, 2);
    ground(talk, Talk.to(1), 3, 0);
    ground(talk, Talk.to(0, 1), 3, 0);
    talk.replies(1, ParleyRoom.CONCEDE, claim);
    ground(talk, Talk.to(0, 1), 3, 2);
    ground(talk, Talk.to(0, 1, 2), 3, 0);
    talk.asserts(2, 3, 1);
    ground(talk, Talk.to(0, 1, 2), 3, 0);
    ground(talk, Talk.to(1, 2), 3, 0);
    ground(talk, Talk.to(2), 3, 1);
    ground(talk, Talk.to(0, 1), 4, 0);
  }

  private static void groundByTaking() {
    Talk talk = new Talk();
    int claim = talk.asserts(0, 3, 1);
    talk.replies(1, ParleyRoom.ACK, claim);
    ground(talk, Talk.to(0, 1), 3, 1);
    ground(talk, Talk.to(1), 3, 0);
    ground(talk, 15, 3, 0);
    talk.asserts(2, 3, 1);
    ground(talk, Talk.to(0, 1, 2), 3, 1);
    ground(talk, Talk.to(1, 2), 3, 0);
    talk.replies(3, ParleyRoom.ACK, claim);
    ground(talk, 15, 3, 1);
    talk.asserts(1, 3, 2);
    ground(talk, 15, 3, 0);
    ground(talk, Talk.to(0, 1), 3, 0);
    ground(talk, Talk.to(0, 2, 3), 3, 1);
    talk.asserts(0, 3, 1);
    ground(talk, Talk.to(0, 3), 3, 0);
  }

  private static void groundByOthersTurns() {
    Talk talk = new Talk();
    talk.room.strict(true);
    int claim = talk.does(0, ParleyRoom.ASSERT, 3, 1, Talk.to(1, 2), -1);
    talk.replies(2, ParleyRoom.ACK, claim);
    talk.room.tick(1);
    ground(talk, Talk.to(1, 2), 3, 0);
    talk.room.tick(3);
    talk.does(2, ParleyRoom.RETRACT, 3, 0);
    Check.same("by silence", talk.room.standBy(1, 3), claim);
    ground(talk, Talk.to(1, 2), 3, 1);
    talk.does(0, ParleyRoom.RETRACT, 3, 0);
    ground(talk, Talk.to(1, 2), 3, 1);
    ground(talk, Talk.to(0, 1), 3, 0);
  }

  private static void groundArguments() {
    ParleyRoom room = new ParleyRoom();
    Check.noSuch(room, "ground about -1", () -> room.ground(1, -1));
    Check.noSuch(room, "ground about 10", () -> room.ground(15, 10));
    Check.noSuch(room, "ground of 0 about 10", () -> room.ground(0, 10));
    Check.outOfRange(room, "ground of 0", () -> room.ground(0, 0));
    Check.outOfRange(room, "ground of 16", () -> room.ground(16, 0));
    Check.outOfRange(room, "ground of -1", () -> room.ground(-1, 9));
  }

  private static int sum(int... numbers) {
    int sum = 7;
    for (int number : numbers) {
      sum = 31 * sum + number;
    }
    return sum;
  }

  private static void minutes() {
    Talk talk = new Talk();
    talk.room.say(2, ParleyRoom.ASK, 4, -9, 1, 5);
    Check.same("minutes of one", talk.room.minutes(), sum(2, 1, 4, -9, 1, 0));
    talk.room.say(3, ParleyRoom.HINT, 9, 2, 7, 5);
    Check.same("minutes of two", talk.room.minutes(), sum(2, 1, 4, -9, 1, 0, 3, 11, 9, 2, 7, 0));
    talk.room.tick(1);
    Check.same("done and LOST", talk.room.minutes(), sum(2, 1, 4, -9, 1, 1, 3, 11, 9, 2, 7, 2));
    talk.room.say(0, ParleyRoom.ANSWER, Integer.MAX_VALUE, 1, 8, 5);
    Check.same("as told", talk.room.minutes(),
        sum(2, 1, 4, -9, 1, 1, 3, 11, 9, 2, 7, 2, 0, 2, Integer.MAX_VALUE, 1, 8, 0));
    talk.room.tick(1);
    Check.same("as carried out", talk.room.minutes(),
        sum(2, 1, 4, -9, 1, 1, 3, 11, 9, 2, 7, 2, 0, 2, 4, 1, 8, 1));
  }
}
