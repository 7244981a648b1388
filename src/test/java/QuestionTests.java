/** Promises 10, 23 and 24: the questions on their stack. */
final class QuestionTests {
  private QuestionTests() {}

  static void run() {
    stack();
    answers();
    assertions();
    drops();
    arguments();
  }

  private static void question(Talk talk, int place, int... due) {
    for (int what = 0; what < 4; what++) {
      Check.same("question " + place + ", " + what, talk.room.question(place, what), due[what]);
    }
  }

  private static void stack() {
    Talk talk = new Talk();
    talk.hints(0, 0, 1);
    int first = talk.asks(0, 9, 3);
    int said = talk.room.say(2, ParleyRoom.ASK, 4, 0, Talk.to(1), -1);
    Check.same("said only", talk.room.questions(), 1);
    talk.room.tick(1);
    Check.same("both", talk.room.questions(), 2);
    question(talk, 0, 2, 1, 4, said);
    question(talk, 1, 0, 3, 9, first);
    for (int i = 0; i < 4; i++) {
      talk.asks(0, i, 1);
    }
    Check.same("six", talk.room.questions(), 6);
    question(talk, 5, 0, 3, 9, first);
    talk.room.tick(20);
    Check.same("they stay", talk.room.questions(), 6);
  }

  private static void answers() {
    Talk talk = new Talk();
    talk.asks(0, 9, 3);
    int top = talk.asks(0, 4, 3);
    int answer = talk.does(3, ParleyRoom.ANSWER, 7, 2);
    Check.same("closed by an answer", talk.room.questions(), 1);
    Check.same("about its atom", talk.room.turn(answer, 2), 4);
    Check.same("its value", talk.room.turn(answer, 3), 2);
    Check.same("committed", talk.room.stand(3, 4), 2);
    Check.same("the turn that asked", talk.room.turn(top, 2), 4);
    int unknown = talk.say(3, ParleyRoom.ANSWER, 7, 0);
    Check.same("as told until it is carried out", talk.room.turn(unknown, 2), 7);
    talk.room.tick(1);
    Check.same("closed by not knowing", talk.room.questions(), 0);
    Check.same("not knowing is about its atom", talk.room.turn(unknown, 2), 9);
    Check.same("not committed", talk.room.stand(3, 9), 0);

    talk.asks(0, 9, 3);
    int lost = talk.say(3, ParleyRoom.ANSWER, 7, 1);
    talk.say(1, ParleyRoom.HINT, 0, 1);
    talk.room.tick(1);
    Check.same("the right comes before", talk.room.turn(lost, 2), 9);
    talk.asks(0, 9, 3);
    talk.room.tick(2);
    lost = talk.say(3, ParleyRoom.ANSWER, 7, 1);
    talk.say(1, ParleyRoom.HINT, 0, 1);
    talk.room.tick(1);
    Check.same("what is LOST is as told", talk.room.turn(lost, 2), 7);
    Check.same("what is LOST answers nothing", talk.room.questions(), 1);
  }

  private static void assertions() {
    Talk talk = new Talk();
    talk.asks(0, 9, 3);
    talk.asks(0, 4, 3);
    talk.asserts(3, 9, 1);
    Check.same("asserting below the top", talk.room.questions(), 2);
    talk.asserts(2, 4, 1);
    Check.same("asserting, not asked", talk.room.questions(), 2);
    talk.hints(3, 4, 1);
    Check.same("hinting", talk.room.questions(), 2);
    talk.does(3, ParleyRoom.ASSERT, 4, 2, Talk.to(1), -1);
    Check.same("asserting the top one's atom", talk.room.questions(), 1);
    Check.same("is no answer, but committed", talk.room.stand(3, 4), 2);
    talk.asserts(3, 9, 1);
    Check.same("asserting the next one's atom", talk.room.questions(), 0);
  }

  private static void drops() {
    Talk talk = new Talk();
    talk.asks(0, 9, 3);
    int top = talk.asks(1, 4, 3);
    talk.does(1, ParleyRoom.DROP, 0, 0);
    Check.same("dropped", talk.room.questions(), 1);
    question(talk, 0, 0, 3, 9, 0);
    Check.same("the turn stays", talk.state(top), ParleyRoom.DONE);
    talk.does(0, ParleyRoom.DROP, 0, 0);
    Check.same("all dropped", talk.room.questions(), 0);
  }

  private static void arguments() {
    Talk talk = new Talk();
    Check.noSuch(talk.room, "no question", () -> talk.room.question(0, 0));
    talk.asks(0, 9, 3);
    Check.noSuch(talk.room, "question -1", () -> talk.room.question(-1, 0));
    Check.noSuch(talk.room, "question 1", () -> talk.room.question(1, 0));
    Check.noSuch(talk.room, "question 1, what 4", () -> talk.room.question(1, 4));
    Check.noSuch(talk.room, "the least", () -> talk.room.question(Integer.MIN_VALUE, 0));
    Check.noSuch(talk.room, "the greatest", () -> talk.room.question(Integer.MAX_VALUE, 0));
    Check.outOfRange(talk.room, "what -1", () -> talk.room.question(0, -1));
    Check.outOfRange(talk.room, "what 4", () -> talk.room.question(0, 4));
  }
}
