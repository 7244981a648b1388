/** Promises 10 to 12: ticks, who has the floor, and who has the right to the next turn. */
final class TickTests {
  private TickTests() {}

  static void run() {
    ticks();
    floorByPower();
    floorByRight();
    acksComeFirst();
    acksAmongThemselves();
    whoGetsTheRight();
    rightEnds();
    rightStays();
    noLongerPossible();
  }

  private static void ticks() {
    ParleyRoom room = new ParleyRoom();
    Check.same("tick 1", room.tick(1), 1);
    Check.same("tick 20", room.tick(20), 21);
    Check.same("clock", room.clock(), 21);
    Check.outOfRange(room, "tick 0", () -> room.tick(0));
    Check.outOfRange(room, "tick -1", () -> room.tick(-1));
    Check.outOfRange(room, "tick 21", () -> room.tick(21));
    room.say(0, ParleyRoom.HINT, 0, 1, 2, -1);
    Check.outOfRange(room, "tick 0 with a turn", () -> room.tick(0));
    room.tick(4);
    Check.same("it is carried out in the first tick", room.turn(0, 7), 21);
    Check.same("clock after", room.clock(), 25);
  }

  /** All four say a hint; returns who had the floor. */
  private static int floor(Talk talk) {
    int first = talk.room.said();
    for (int speaker = 3; speaker >= 0; speaker--) {
      talk.say(speaker, ParleyRoom.HINT, 0, 1);
    }
    talk.room.tick(1);
    int winner = -1;
    for (int turn = first; turn < first + 4; turn++) {
      if (talk.state(turn) == ParleyRoom.DONE) {
        Check.same("only one has the floor", winner, -1);
        winner = talk.room.turn(turn, 0);
      } else {
        Check.same("the others are LOST", talk.state(turn), ParleyRoom.LOST);
        Check.same("what is LOST has no clock", talk.room.turn(turn, 7), -1);
        int hearer = (talk.room.turn(turn, 0) + 1) % 4;
        Check.same("what is LOST is not heard", talk.room.heard(turn, hearer), 0);
      }
    }
    return winner;
  }

  private static void floorByPower() {
    Talk talk = new Talk();
    Check.same("no powers: the lowest", floor(talk), 0);
    talk.room.power(3, 1);
    Check.same("greatest power", floor(talk), 3);
    talk.room.power(2, 9);
    Check.same("greater power", floor(talk), 2);
    talk.room.power(1, 9);
    Check.same("of several the lowest", floor(talk), 1);
    talk.room.power(1, 0);
    talk.room.power(2, 0);
    talk.room.power(3, 0);
    talk.say(2, ParleyRoom.HINT, 0, 1);
    int late = talk.say(3, ParleyRoom.HINT, 0, 1);
    talk.room.power(3, 5);
    talk.room.tick(1);
    Check.same("power as the tick goes by", talk.state(late), ParleyRoom.DONE);
  }

  private static void floorByRight() {
    Talk talk = new Talk();
    talk.room.power(0, 9);
    talk.asks(0, 5, 3);
    Check.same("right", talk.room.next(), 3);
    Check.same("right before power", floor(talk), 3);
    Check.same("right is used up", talk.room.next(), -1);
    Check.same("power without right", floor(talk), 0);
    talk.asks(0, 5, 3);
    int turn = talk.hints(2, 0, 1);
    Check.same("one without right, alone", talk.state(turn), ParleyRoom.DONE);
    Check.same("right is gone by another one's turn", talk.room.next(), -1);
  }

  private static void acksComeFirst() {
    Talk talk = new Talk();
    int turn = talk.asks(2, 5, 3);
    int hint = talk.say(1, ParleyRoom.HINT, 0, 1);
    int ack = talk.say(3, ParleyRoom.ACK, turn, 0);
    talk.room.tick(1);
    Check.same("ack is no turn for the floor", talk.state(ack), ParleyRoom.DONE);
    Check.same("nor does it take it", talk.state(hint), ParleyRoom.DONE);
    Check.same("ack has a clock", talk.room.turn(ack, 7), 1);
    Check.same("ack is delivered", talk.room.heard(ack, 0), ParleyRoom.HEARD);
    Check.same("the turn is TAKEN", talk.room.heard(turn, 3), ParleyRoom.TAKEN);

    talk = new Talk();
    int claim = talk.asserts(0, 1, 1);
    int denial = talk.say(0, ParleyRoom.RETRACT, 1, 0);
    talk.say(1, ParleyRoom.ACK, claim, 0);
    talk.say(2, ParleyRoom.ACK, claim, 0);
    talk.room.tick(1);
    Check.same("first ack", talk.room.heard(claim, 1), ParleyRoom.TAKEN);
    Check.same("second ack", talk.room.heard(claim, 2), ParleyRoom.TAKEN);
    Check.same("no ack", talk.room.heard(claim, 3), ParleyRoom.HEARD);
    Check.same("and the floor", talk.state(denial), ParleyRoom.DONE);
  }

  private static void acksAmongThemselves() {
    for (int speaker = 0; speaker < 4; speaker++) {
      Talk any = new Talk();
      int other = (speaker + 1) % 4;
      int turn = any.hints(other, 0, 1);
      int ack = any.say(speaker, ParleyRoom.ACK, turn, 0);
      int next = any.say(other, ParleyRoom.HINT, 1, 1);
      any.room.tick(1);
      Check.same("ack by any", any.state(ack), ParleyRoom.DONE);
      Check.same("taken by any", any.room.heard(turn, speaker), ParleyRoom.TAKEN);
      Check.same("the floor beside", any.state(next), ParleyRoom.DONE);
    }
    Talk talk = new Talk();
    int hint = talk.hints(0, 0, 1);
    talk.say(2, ParleyRoom.ACK, hint, 0);
    talk.say(1, ParleyRoom.ACK, hint, 0);
    talk.room.tick(1);
    Check.same("both acks are done", talk.state(1) + talk.state(2), 2 * ParleyRoom.DONE);
    int ackOfAck = talk.replies(0, ParleyRoom.ACK, 1);
    Check.same("an ack of an ack", talk.room.heard(1, 0), ParleyRoom.TAKEN);
    Check.same("is done", talk.state(ackOfAck), ParleyRoom.DONE);
  }

  private static void whoGetsTheRight() {
    Talk talk = new Talk();
    talk.room.give(0, 0);
    talk.room.deafen(2, 1);
    int claim = talk.asserts(0, 1, 1);
    Check.same("by assert nobody", talk.room.next(), -1);
    talk.asks(1, 5, 3);
    Check.same("by ask the one asked", talk.room.next(), 3);
    talk.offers(0, 1, 0, 2, 5);
    Check.same("by offer the one to whom it is", talk.room.next(), 2);
    talk.replies(2, ParleyRoom.CLARIFY, claim);
    Check.same("by clarify the one who said it", talk.room.next(), 0);
    talk.hints(0, 3, 1);
    talk.replies(1, ParleyRoom.DENY, claim);
    Check.same("by deny the one who claimed", talk.room.next(), 0);
    talk.does(0, ParleyRoom.RETRACT, 1, 0);
    talk.replies(3, ParleyRoom.DENY, claim);
    Check.same("by deny, without a quarrel too", talk.room.next(), 0);
    talk.replies(1, ParleyRoom.CONCEDE, claim);
    Check.same("by concede nobody", talk.room.next(), -1);
  }

  private static void rightEnds() {
    Talk talk = new Talk();
    talk.asks(0, 5, 3);
    Check.same("clock 1", talk.room.next(), 3);
    talk.room.tick(1);
    Check.same("clock 2", talk.room.next(), 3);
    Check.same("right at clock 2", floor(talk), 3);
    talk.asks(0, 5, 3);
    talk.room.tick(2);
    Check.same("3 more", talk.room.next(), -1);
    Check.same("no right any more", floor(talk), 0);
  }

  private static void rightStays() {
    Talk talk = new Talk();
    int ask = talk.asks(0, 5, 3);
    talk.replies(3, ParleyRoom.ACK, ask);
    Check.same("by one's own ack it stays", talk.room.next(), 3);
    talk.asks(0, 5, 3);
    int hint = talk.hints(1, 0, 1);
    talk.asks(0, 5, 3);
    talk.replies(2, ParleyRoom.ACK, hint);
    Check.same("by another one's ack it stays", talk.room.next(), 3);

    talk = new Talk();
    int claim = talk.asserts(1, 4, 2);
    talk.asks(0, 5, 3);
    talk.does(0, ParleyRoom.ASSERT, 6, 1, Talk.to(1), 4);
    Check.same("challenged, and nobody has the right", talk.room.next(), -1);
    Check.same("claim", talk.state(claim), ParleyRoom.DONE);
    talk.does(0, ParleyRoom.ASK, 6, 0, Talk.to(1), 4);
    Check.same("a challenged ask gives no right", talk.room.next(), -1);
    Check.same("and puts no question", talk.room.questions(), 1);

    talk = new Talk();
    talk.asks(0, 5, 3);
    talk.say(1, ParleyRoom.ASSERT, 1, 1);
    int turn = talk.say(3, ParleyRoom.ASSERT, 1, 1);
    talk.room.strict(true);
    talk.room.tick(1);
    Check.same("VOID by strict rules", talk.state(turn), ParleyRoom.VOID);
    Check.same("the other one is LOST all the same", talk.state(1), ParleyRoom.LOST);
    Check.same("right stays when VOID", talk.room.next(), 3);
  }

  private static void noLongerPossible() {
    Talk talk = new Talk();
    talk.room.give(0, 0);
    int offer = talk.room.say(0, ParleyRoom.OFFER, 1, 0, 2, 5);
    talk.room.give(0, 2);
    talk.room.tick(1);
    Check.same("an offer of what is gone", talk.state(offer), ParleyRoom.VOID);
    Check.same("is not open", talk.isOpen(offer), false);
    Check.same("has no clock", talk.room.turn(offer, 7), -1);
    Check.same("is not heard", talk.room.heard(offer, 1), 0);
    Check.same("gives no right", talk.room.next(), -1);
    int claim = talk.asserts(0, 1, 1);
    talk.say(1, ParleyRoom.ACK, claim, 0);
    talk.room.tick(1);
    Check.same("ack", talk.state(2), ParleyRoom.DONE);
    talk.asks(3, 1, 0);
    talk.say(0, ParleyRoom.ANSWER, 77, 2);
    talk.room.tick(1);
    Check.same("answer", talk.room.stand(0, 1), 2);
  }
}
