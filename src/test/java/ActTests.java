import java.util.Arrays;
import java.util.Map;
import java.util.TreeMap;
import java.util.TreeSet;

/** Promise 10: each act does what is told of it, and nothing else. */
final class ActTests {
  private static final int YES = ParleyRoom.YES;
  private static final int NO = ParleyRoom.NO;
  private static final int NONE = ParleyRoom.NONE;
  private static final int ALL = 14;

  /** Atoms as given, where given does not matter: speaker 2 is to NO about 3, nobody about 9. */
  private static final int[] GIVEN_IN_VAIN = {3, 9};
  private static final int TURNS = 8;

  private ActTests() {}

  static void run() {
    claims();
    questions();
    replies();
    reasons();
    hints();
    offers();
  }

  /**
   * Speaker 0 asserts 0 in a quarrel with 1; missed a claim of 3 (turn 2) by 2; was not heard by 3
   * with a claim of 4 (turn 3); has an offer by 2 (turn 4), a hint of 1, heard a claim of 7 by 3
   * (turn 6), and is asked about 2 by 1, so that it has the right to the next turn.
   */
  private static Talk scene() {
    Talk talk = new Talk();
    talk.room.give(0, 0);
    talk.room.give(1, 0);
    talk.room.give(2, 2);
    talk.quarrel(0);
    talk.room.deafen(0, 1);
    talk.asserts(2, 3, NO);
    talk.room.deafen(3, 1);
    talk.asserts(0, 4, NO);
    talk.offers(2, 4, 1, 0, 20);
    talk.hints(0, 1, NO);
    talk.asserts(3, 7, NO);
    talk.asks(1, 2, 0);
    return talk;
  }

  private static Map<String, Integer> answersOf(ParleyRoom room) {
    Map<String, Integer> answers = new TreeMap<>();
    answers.put("next", room.next());
    answers.put("questions", room.questions());
    answers.put("quarrels", room.quarrels());
    answers.put("deals", room.deals());
    for (int speaker = 0; speaker < 4; speaker++) {
      answers.put("lies " + speaker, room.lies(speaker));
      for (int atom = 0; atom < 10; atom++) {
        String who = " " + speaker + "," + atom;
        answers.put("stand" + who, room.stand(speaker, atom));
        answers.put("by" + who, room.standBy(speaker, atom));
        answers.put("hint" + who, room.hint(speaker, atom));
        answers.put("supported" + who, room.isSupported(speaker, atom) ? 1 : 0);
      }
    }
    for (int good = 0; good < 8; good++) {
      answers.put("owner " + good, room.owner(good));
    }
    for (int turn = 0; turn < TURNS; turn++) {
      for (int what = 0; what <= 8; what++) {
        answers.put("turn " + turn + "," + what, room.turn(turn, what));
      }
      for (int hearer = 0; hearer < 4; hearer++) {
        answers.put("heard " + turn + "," + hearer, room.heard(turn, hearer));
      }
    }
    return answers;
  }

  /** Each change is a name of an answer, and what it is now. */
  private static void changes(int act, int about, int value, int to, int given, String... due) {
    Map<String, Integer> before = answersOf(scene().room);
    Talk talk = scene();
    String what = "act " + act + " about " + about + ", value " + value + ", given " + given;
    int turn = talk.does(0, act, about, value, to, given);
    Check.same(what + ": DONE", talk.state(turn), ParleyRoom.DONE);
    Check.same(what + ": open", talk.isOpen(turn), act == ParleyRoom.OFFER);
    Check.same(what + ": about", talk.room.turn(turn, 2), act == ParleyRoom.ANSWER ? 2 : about);
    Check.same(what + ": value", talk.room.turn(turn, 3), act == ParleyRoom.ACCEPT ? 1 : value);
    Check.same(what + ": given", talk.room.turn(turn, 5), given);
    TreeSet<String> changed = new TreeSet<>();
    for (Map.Entry<String, Integer> now : answersOf(talk.room).entrySet()) {
      if (!now.getValue().equals(before.get(now.getKey()))) {
        changed.add(now.getKey() + " is " + now.getValue());
      }
    }
    Check.same(what, changed, new TreeSet<>(Arrays.asList(due)));
  }

  /** An act to which given does not matter. */
  private static void does(int act, int about, int value, String... due) {
    for (int given : GIVEN_IN_VAIN) {
      changes(act, about, value, ALL, given, due);
    }
  }

  private static void claims() {
    int act = ParleyRoom.ASSERT;
    changes(act, 6, YES, ALL, NONE, "next is -1", "stand 0,6 is 1", "by 0,6 is 8");
    changes(act, 6, NO, Talk.to(2, 3), 0, "next is -1", "stand 0,6 is 2", "by 0,6 is 8");
    changes(act, 6, NO, ALL, 8, "next is -1", "stand 0,6 is 2", "by 0,6 is 8", "stand 0,8 is 1",
        "by 0,8 is 8");
    changes(act, 2, NO, ALL, NONE, "next is -1", "stand 0,2 is 2", "by 0,2 is 8",
        "questions is 0");
    changes(act, 0, YES, ALL, NONE, "next is -1", "by 0,0 is 8");
    changes(act, 0, NO, ALL, NONE, "next is -1", "stand 0,0 is 2", "by 0,0 is 8",
        "quarrels is 0");
  }

  private static void questions() {
    changes(ParleyRoom.ASK, 5, YES, Talk.to(3), NONE, "next is 3", "questions is 2");
    changes(ParleyRoom.ASK, 5, NO, Talk.to(3), 8, "next is 3", "questions is 2",
        "stand 0,8 is 1", "by 0,8 is 8");
    does(ParleyRoom.ANSWER, 6, YES, "next is -1", "questions is 0", "stand 0,2 is 1",
        "by 0,2 is 8");
    does(ParleyRoom.ANSWER, 6, NO, "next is -1", "questions is 0", "stand 0,2 is 2",
        "by 0,2 is 8");
    does(ParleyRoom.ANSWER, 6, 0, "next is -1", "questions is 0");
    Talk talk = scene();
    talk.asks(0, 5, 1);
    int drop = talk.does(0, ParleyRoom.DROP, 5, YES, ALL, 8);
    Check.same("dropped", talk.state(drop), ParleyRoom.DONE);
    Check.same("the question below", talk.room.question(0, 3), 7);
    Check.same("no right", talk.room.next(), NONE);
    for (int speaker = 0; speaker < 4; speaker++) {
      Check.same("by a drop nobody is committed", talk.room.stand(speaker, 5), 0);
      Check.same("nor hints", talk.room.hint(speaker, 5), 0);
    }
  }

  private static void replies() {
    for (int value : new int[] {0, YES, NO, 8}) {
      does(ParleyRoom.ACK, 1, value, "heard 1,0 is 4");
      does(ParleyRoom.ACK, 4, value, "heard 4,0 is 4");
      does(ParleyRoom.ACK, 6, value, "heard 6,0 is 4");
      does(ParleyRoom.CLARIFY, 2, value, "next is 2");
      does(ParleyRoom.REPEAT, 3, value, "next is -1", "heard 3,3 is 3");
      does(ParleyRoom.CONCEDE, 6, value, "next is -1", "stand 0,7 is 2", "by 0,7 is 8");
      does(ParleyRoom.DENY, 6, value, "next is 3", "stand 0,7 is 1", "by 0,7 is 8",
          "quarrels is 2");
    }
  }

  private static void reasons() {
    does(ParleyRoom.BECAUSE, 0, 8, "next is -1", "stand 0,8 is 1", "by 0,8 is 8",
        "supported 0,0 is 1", "quarrels is 0");
    does(ParleyRoom.BECAUSE, 4, 8, "next is -1", "stand 0,8 is 1", "by 0,8 is 8",
        "supported 0,4 is 1");
    does(ParleyRoom.BECAUSE, 4, 0, "next is -1", "by 0,0 is 8", "supported 0,4 is 1");
    for (int value : new int[] {0, YES, NO, 8}) {
      does(ParleyRoom.RETRACT, 4, value, "next is -1", "stand 0,4 is 0", "by 0,4 is -1");
      does(ParleyRoom.RETRACT, 0, value, "next is -1", "stand 0,0 is 0", "by 0,0 is -1",
          "quarrels is 0");
    }
  }

  private static void hints() {
    does(ParleyRoom.HINT, 8, YES, "next is -1", "hint 0,8 is 1");
    does(ParleyRoom.HINT, 1, YES, "next is -1", "hint 0,1 is 1");
    does(ParleyRoom.HINT, 1, NO, "next is -1");
    for (int value : new int[] {0, YES, NO, 8}) {
      does(ParleyRoom.CANCEL, 1, value, "next is -1", "hint 0,1 is 0");
    }
  }

  private static void offers() {
    for (int given : new int[] {1, 9, 20}) {
      changes(ParleyRoom.OFFER, 3, 0, Talk.to(1), given, "next is 1");
      changes(ParleyRoom.OFFER, 1, 4, Talk.to(2), given, "next is 2", "turn 4,8 is 0");
    }
    for (int value : new int[] {0, YES, NO, 8}) {
      does(ParleyRoom.ACCEPT, 4, value, "next is -1", "turn 4,8 is 0", "owner 0 is 2",
          "owner 2 is 0", "deals is 1");
      does(ParleyRoom.REJECT, 4, value, "next is -1", "turn 4,8 is 0");
    }
  }
}
