/** What the section "Ticks" tells of edges: ties, nobody, last ticks, and what is there no more. */
final class TickEdgeTests {
  private static final String TICKS = "Ticks";
  private static final int YES = ParleyRoom.YES;
  private static final int NO = ParleyRoom.NO;
  private static final int NONE = ParleyRoom.NONE;

  private TickEdgeTests() {}

  static void run() {
    steps();
    carryingOut();
    acts();
    quarrelsAndRights();
    hearing();
  }

  // ---- the steps of a tick

  private static void steps() {
    Edges.of(TICKS, "In a tick, one behind the other:", TickEdgeTests::order);
    Edges.of(TICKS, "1. All ACK that were said are carried out, by their speakers' numbers.",
        TickEdgeTests::acks);
    Edges.of(TICKS, "2. Of the other turns that were said one has the floor: that of the one who"
        + " has the right to the next turn, otherwise that of the speaker with the greatest power,"
        + " of several the lowest; the others are LOST. It is carried out.", TickEdgeTests::floor);
    Edges.of(TICKS, "3. The clock is 1 more. What comes late is heard if its time is there.",
        TickEdgeTests::late);
    Edges.of(TICKS, "4. A hint that was done 5 ticks ago is one no more; if its turn is TAKEN by"
        + " somebody, the one who hinted is committed to it by that turn, whatever it was"
        + " committed to.", TickEdgeTests::hints);
    Edges.of(TICKS, "5. Offers whose ticks are over (more ticks have gone by since they were done"
        + " than were given) are open no more.", TickEdgeTests::overdueOffers);
    Edges.of(TICKS, "6. By strict rules: one who HEARD, or has TAKEN, a claim, heard it 6 ticks"
        + " ago, is committed to nothing about its atom, is committed to its value by it, if the"
        + " one who claimed it still is to that value, by whatever turn (by turns, then by"
        + " speakers).", TickEdgeTests::silence);
  }

  private static void order() {
    Talk canceled = new Talk();
    int hint = canceled.hints(0, 0, YES);
    canceled.replies(1, ParleyRoom.ACK, hint);
    canceled.room.tick(2);
    canceled.does(0, ParleyRoom.CANCEL, 0, 0);
    Check.same("2 before 4: canceled as it would harden", canceled.room.stand(0, 0), 0);
    Talk accepted = new Talk();
    accepted.room.give(0, 0);
    int offer = accepted.offers(0, 1, 0, 1, 1);
    accepted.replies(1, ParleyRoom.ACCEPT, offer);
    Check.same("2 before 5: accepted as it would be overdue", accepted.room.owner(0), 1);
    Talk quiet = claimed(true);
    quiet.does(1, ParleyRoom.ASSERT, 0, YES, Talk.to(2), NONE);
    quiet.room.tick(3);
    quiet.does(1, ParleyRoom.RETRACT, 0, 0);
    quiet.room.tick(1);
    Check.same("2 before 6: retracted in time", quiet.room.standBy(1, 0), 0);
    hardensAsSilenceCounts();
  }

  private static void hardensAsSilenceCounts() {
    Talk hearer = claimed(true);
    int hint = hearer.hints(1, 0, YES);
    hearer.replies(2, ParleyRoom.ACK, hint);
    hearer.room.tick(4);
    Check.same("4 before 6: the hearer's hint", hearer.room.standBy(1, 0), hint);
    Talk claimer = claimed(true);
    hint = claimer.hints(0, 0, YES);
    claimer.replies(2, ParleyRoom.ACK, hint);
    claimer.room.tick(4);
    Check.same("the claimer's hint", claimer.room.standBy(0, 0), hint);
    Check.same("4 before 6: the claimer is turned round", claimer.room.stand(1, 0), 0);
  }

  private static void acks() {
    Talk none = new Talk();
    Check.same("none was said", none.room.tick(1), 1);
    Talk all = new Talk();
    for (int speaker = 0; speaker < 4; speaker++) {
      all.hints(speaker, 0, YES);
    }
    for (int speaker = 3; speaker >= 0; speaker--) {
      all.say(speaker, ParleyRoom.ACK, (speaker + 1) % 4, 0);
    }
    all.room.tick(1);
    for (int turn = 4; turn < 8; turn++) {
      int acked = all.room.turn(turn, 2);
      Check.same("all are done", all.state(turn), ParleyRoom.DONE);
      Check.same("at one clock", all.room.turn(turn, 7), 4);
      Check.same("TAKEN", all.room.heard(acked, all.room.turn(turn, 0)), ParleyRoom.TAKEN);
    }
  }

  private static void floor() {
    Talk none = new Talk();
    none.room.tick(1);
    Check.same("nobody said anything", none.room.said(), 0);
    for (int speakers = 1; speakers <= 15; speakers++) {
      Check.same("all powers 0", winner(speakers, 0, 0, 0, 0), lowest(speakers));
      Check.same("all powers 9", winner(speakers, 9, 9, 9, 9), lowest(speakers));
      Check.same("growing", winner(speakers, 0, 1, 8, 9), highest(speakers));
    }
    Check.same("two greatest", winner(15, 0, 9, 8, 9), 1);
    Check.same("the greatest was silent", winner(13, 0, 9, 1, 1), 2);
    Talk asked = new Talk();
    asked.room.power(0, 9);
    asked.asks(0, 0, 3);
    Check.same("power 9 against the right", winner(asked, 15), 3);
    asked.asks(0, 0, 3);
    Check.same("the one with the right was silent", winner(asked, 7), 0);
  }

  private static int lowest(int speakers) {
    return Integer.numberOfTrailingZeros(speakers);
  }

  private static int highest(int speakers) {
    return 31 - Integer.numberOfLeadingZeros(speakers);
  }

  private static int winner(int speakers, int... powers) {
    Talk talk = new Talk();
    for (int speaker = 0; speaker < 4; speaker++) {
      talk.room.power(speaker, powers[speaker]);
    }
    return winner(talk, speakers);
  }

  /** Who of these has the floor if they all say something. */
  private static int winner(Talk talk, int speakers) {
    int first = talk.room.said();
    for (int speaker = 3; speaker >= 0; speaker--) {
      if ((speakers >> speaker & 1) == 1) {
        talk.say(speaker, ParleyRoom.HINT, 9, YES);
      }
    }
    talk.room.tick(1);
    int winner = NONE;
    for (int turn = first; turn < talk.room.said(); turn++) {
      boolean done = talk.state(turn) == ParleyRoom.DONE;
      Check.same("DONE or LOST", done || talk.state(turn) == ParleyRoom.LOST, true);
      winner = done ? talk.room.turn(turn, 0) : winner;
    }
    return winner;
  }

  /** Speaker 0 says something that comes to speaker 1 through speaker 2. */
  private static Talk foreign() {
    Talk talk = new Talk();
    talk.room.knows(0, 2, 1, false);
    talk.room.knows(2, 3, 0, true);
    return talk;
  }

  private static void late() {
    Talk talk = foreign();
    int turn = talk.hints(0, 0, YES);
    Check.same("clock 1 more", talk.room.clock(), 1);
    Check.same("1 more", talk.room.heard(turn, 1), ParleyRoom.COMING);
    talk.room.tick(1);
    Check.same("2 more", talk.room.heard(turn, 1), ParleyRoom.HEARD);
  }

  private static void hints() {
    for (int taken = 0; taken <= 1; taken++) {
      Talk talk = new Talk();
      talk.room.tick(2);
      int hint = talk.hints(0, 0, NO);
      int claim = talk.asserts(0, 0, YES);
      if (taken == 1) {
        talk.say(3, ParleyRoom.ACK, hint, 0);
      }
      talk.room.tick(2);
      Check.same("4 ticks ago", talk.room.hint(0, 0), NO);
      Check.same("committed otherwise", talk.room.stand(0, 0), YES);
      talk.room.tick(1);
      Check.same("5 ticks ago", talk.room.hint(0, 0), 0);
      Check.same("committed", talk.room.stand(0, 0), taken == 1 ? NO : YES);
      Check.same("by", talk.room.standBy(0, 0), taken == 1 ? hint : claim);
    }
    Talk talk = new Talk();
    int hint = talk.hints(0, 0, NO);
    talk.room.tick(3);
    talk.replies(3, ParleyRoom.ACK, hint);
    Check.same("TAKEN in the last tick", talk.room.standBy(0, 0), hint);
    hint = talk.hints(0, 1, NO);
    talk.room.tick(4);
    talk.replies(3, ParleyRoom.ACK, hint);
    talk.room.tick(1);
    Check.same("TAKEN one tick later", talk.room.stand(0, 1), 0);
  }

  private static void overdueOffers() {
    for (int given = 1; given <= 20; given++) {
      Talk talk = new Talk();
      talk.room.give(0, 0);
      talk.room.tick(3);
      int offer = talk.offers(0, 1, 0, 1, given);
      if (given > 1) {
        talk.room.tick(given - 1);
      }
      Check.same("as many ticks as given", talk.isOpen(offer), true);
      talk.room.tick(1);
      Check.same("one more", talk.isOpen(offer), false);
    }
  }

  private static Talk claimed(boolean strict) {
    Talk talk = new Talk();
    talk.room.strict(strict);
    talk.room.tick(2);
    talk.asserts(0, 0, NO);
    return talk;
  }

  private static void silence() {
    Talk talk = claimed(true);
    talk.replies(2, ParleyRoom.ACK, 0);
    talk.room.tick(3);
    Check.same("5 ticks ago", talk.room.stand(1, 0), 0);
    talk.room.tick(1);
    Check.same("HEARD 6 ticks ago", talk.room.standBy(1, 0), 0);
    Check.same("TAKEN, heard 6 ticks ago", talk.room.standBy(2, 0), 0);
    Check.same("to its value", talk.room.stand(1, 0), NO);

    Talk late = claimed(false);
    late.room.tick(5);
    late.room.strict(true);
    late.room.tick(20);
    Check.same("strict 7 ticks behind", late.room.stand(1, 0), 0);
    Talk justInTime = claimed(false);
    justInTime.room.tick(4);
    justInTime.room.strict(true);
    justInTime.room.tick(1);
    Check.same("strict in the sixth tick", justInTime.room.stand(1, 0), NO);
    Talk noMore = claimed(true);
    noMore.room.tick(4);
    noMore.room.strict(false);
    noMore.room.tick(1);
    Check.same("not strict in the sixth tick", noMore.room.stand(1, 0), 0);
    silenceOfSome();
    silenceByTurns();
  }

  /**
   * Speaker 3 claims what speaker 2 hears later through speaker 1; as it comes, speaker 2 claims
   * the same to speaker 0, and retracts. By turns, 2 is committed first, so that its claim counts.
   */
  private static void silenceByTurns() {
    Talk talk = new Talk();
    talk.room.strict(true);
    talk.room.knows(3, 2, 1, false);
    talk.room.knows(1, 3, 0, true);
    int first = talk.does(3, ParleyRoom.ASSERT, 0, YES, Talk.to(1, 2), NONE);
    talk.room.tick(1);
    int second = talk.does(2, ParleyRoom.ASSERT, 0, YES, Talk.to(0), NONE);
    talk.does(2, ParleyRoom.RETRACT, 0, 0);
    talk.room.tick(3);
    Check.same("not yet", talk.room.stand(2, 0) + talk.room.stand(0, 0), 0);
    talk.room.tick(1);
    Check.same("the one", talk.room.standBy(2, 0), first);
    Check.same("the other one by the other turn", talk.room.standBy(0, 0), second);
  }

  private static void silenceOfSome() {
    Talk held = claimed(true);
    int own = held.asserts(1, 0, YES);
    held.room.tick(4);
    Check.same("one who is committed to the contrary", held.room.standBy(1, 0), own);
    Talk retracted = claimed(true);
    retracted.room.tick(4);
    retracted.does(0, ParleyRoom.RETRACT, 0, 0);
    Check.same("retracted in the last tick", retracted.room.stand(1, 0), 0);
    Talk turned = claimed(true);
    turned.asserts(0, 0, YES);
    turned.room.tick(4);
    Check.same("turned round", turned.room.stand(1, 0), 0);
    Talk again = claimed(true);
    again.does(0, ParleyRoom.RETRACT, 0, 0);
    int anew = again.does(0, ParleyRoom.ASSERT, 0, NO, Talk.to(2), NONE);
    again.room.tick(3);
    Check.same("by whatever turn", again.room.standBy(1, 0), 0);
    Check.same("the first turn", again.room.standBy(2, 0), 0);
    Check.same("the one who claimed", again.room.standBy(0, 0), anew);
    Talk missed = new Talk();
    missed.room.strict(true);
    missed.room.deafen(1, 1);
    missed.asserts(0, 0, NO);
    missed.room.tick(12);
    Check.same("MISSED", missed.room.stand(1, 0), 0);
    Check.same("not MISSED", missed.room.stand(2, 0), NO);
    silenceAboutWhatIsNoClaim();
  }

  /** Speaker 0 is committed all the same, by a turn that speaker 2 alone heard. */
  private static void silenceAboutWhatIsNoClaim() {
    Talk talk = new Talk();
    talk.room.strict(true);
    talk.asserts(1, 5, NO);
    int doubted = talk.does(0, ParleyRoom.ASSERT, 0, NO, Talk.to(1, 3), 5);
    talk.does(0, ParleyRoom.HINT, 0, NO, Talk.to(3), NONE);
    int claim = talk.does(0, ParleyRoom.ASSERT, 0, NO, Talk.to(2), NONE);
    talk.room.tick(9);
    Check.same("challenged", talk.state(doubted), ParleyRoom.CHALLENGED);
    Check.same("heard all the same", talk.room.heard(doubted, 3), ParleyRoom.HEARD);
    Check.same("a claim", talk.room.standBy(2, 0), claim);
    Check.same("no claim", talk.room.stand(3, 0), 0);
  }

  // ---- carrying out

  private static void carryingOut() {
    Edges.of(TICKS, "To carry a turn out: if it is not possible or permitted any more, it is VOID,"
        + " and that is all.", TickEdgeTests::voidTurns);
    Edges.of(TICKS, "Otherwise it is delivered, nobody has the right to the next turn any more,"
        + " also if it is CHALLENGED (but by an ACK that stays)", TickEdgeTests::rightIsGone);
    Edges.of(TICKS, "if it takes an atom for given, and somebody to whom it is said is committed"
        + " to NO about that, it is CHALLENGED, and that is all", TickEdgeTests::challenged);
    Edges.of(TICKS, "otherwise its speaker is committed to YES about that by it, if not already.",
        TickEdgeTests::given);
  }

  private static void voidTurns() {
    Talk talk = new Talk();
    talk.room.give(0, 0);
    talk.asks(2, 5, 0);
    int offer = talk.room.say(0, ParleyRoom.OFFER, 1, 0, 2, 5);
    int other = talk.say(3, ParleyRoom.HINT, 0, YES);
    talk.room.give(0, NONE);
    talk.room.tick(1);
    Check.same("not possible any more", talk.state(offer), ParleyRoom.VOID);
    Check.same("the floor is not another one's", talk.state(other), ParleyRoom.LOST);
    Check.same("not delivered", talk.room.heard(offer, 1), 0);
    Check.same("not open", talk.isOpen(offer), false);
    Check.same("no clock", talk.room.turn(offer, 7), NONE);
    Check.same("the right stays", talk.room.next(), 0);
    int claim = talk.say(0, ParleyRoom.ASSERT, 1, YES);
    talk.room.strict(true);
    talk.room.tick(1);
    Check.same("not permitted any more", talk.state(claim), ParleyRoom.VOID);
    Check.same("not committed", talk.room.stand(0, 1), 0);
    int fine = talk.say(0, ParleyRoom.ASSERT, 5, YES);
    talk.room.tick(1);
    Check.same("permitted", talk.state(fine), ParleyRoom.DONE);
  }

  private static void rightIsGone() {
    Talk talk = new Talk();
    talk.asserts(1, 4, NO);
    int ask = talk.asks(0, 5, 3);
    talk.say(3, ParleyRoom.ACK, ask, 0);
    talk.room.tick(1);
    Check.same("by an ACK it stays", talk.room.next(), 3);
    int doubted = talk.does(3, ParleyRoom.ASSERT, 6, YES, Talk.to(1), 4);
    Check.same("challenged", talk.state(doubted), ParleyRoom.CHALLENGED);
    Check.same("but delivered", talk.room.heard(doubted, 1), ParleyRoom.HEARD);
    Check.same("the right is gone", talk.room.next(), NONE);
    talk.asks(0, 5, 3);
    talk.hints(1, 0, YES);
    Check.same("by one who had it not", talk.room.next(), NONE);
  }

  private static void challenged() {
    Talk talk = new Talk();
    talk.asserts(1, 4, NO);
    talk.room.believe(0, 4, NO);
    int toOthers = talk.does(0, ParleyRoom.ASSERT, 0, YES, Talk.to(2, 3), 4);
    Check.same("not said to that one", talk.state(toOthers), ParleyRoom.DONE);
    Check.same("a lie", talk.room.lies(0), 1);
    talk.does(0, ParleyRoom.RETRACT, 4, 0);
    talk.room.deafen(1, 1);
    int toDeaf = talk.does(0, ParleyRoom.ASSERT, 1, YES, Talk.to(1, 2), 4);
    Check.same("said to that one, who is deaf", talk.state(toDeaf), ParleyRoom.CHALLENGED);
    Check.same("not committed to it", talk.room.stand(0, 1), 0);
    Check.same("nor to what was given", talk.room.stand(0, 4), 0);
    Check.same("no lie", talk.room.lies(0), 1);
    int ask = talk.does(0, ParleyRoom.ASK, 1, 0, Talk.to(1), 4);
    Check.same("a question", talk.state(ask), ParleyRoom.CHALLENGED);
    Check.same("is not put", talk.room.questions(), 0);
    Check.same("gives no right", talk.room.next(), NONE);
    talk.asserts(1, 4, YES);
    int toAgreeing = talk.does(0, ParleyRoom.ASSERT, 1, YES, Talk.to(1), 4);
    Check.same("committed to YES", talk.state(toAgreeing), ParleyRoom.DONE);
    talk.does(1, ParleyRoom.RETRACT, 4, 0);
    int toNobody = talk.does(0, ParleyRoom.ASSERT, 1, YES, Talk.to(1), 4);
    Check.same("committed to nothing", talk.state(toNobody), ParleyRoom.DONE);
    talk.asserts(0, 4, NO);
    int itself = talk.does(0, ParleyRoom.ASSERT, 1, YES, Talk.to(1), 4);
    Check.same("committed to NO itself", talk.state(itself), ParleyRoom.DONE);
    Check.same("is to YES now", talk.room.standBy(0, 4), itself);
  }

  private static void given() {
    Talk talk = new Talk();
    int none = talk.does(0, ParleyRoom.ASSERT, 1, YES, Talk.to(1), NONE);
    for (int atom = 0; atom <= 9; atom++) {
      Check.same("none is given", talk.room.standBy(0, atom), atom == 1 ? none : NONE);
    }
    int first = talk.does(0, ParleyRoom.ASSERT, 1, YES, Talk.to(1), 0);
    Check.same("the first atom", talk.room.standBy(0, 0), first);
    int last = talk.does(0, ParleyRoom.ASSERT, 1, YES, Talk.to(1), 9);
    Check.same("the last atom", talk.room.standBy(0, 9), last);
    talk.does(0, ParleyRoom.ASSERT, 1, YES, Talk.to(1), 9);
    Check.same("already", talk.room.standBy(0, 9), last);
    talk.asserts(0, 9, NO);
    int turned = talk.does(0, ParleyRoom.ASK, 2, 0, Talk.to(1), 9);
    Check.same("to NO until then", talk.room.standBy(0, 9), turned);
    Check.same("to YES", talk.room.stand(0, 9), YES);
  }

  // ---- what acts do

  private static void acts() {
    Edges.of(TICKS, "the top question is closed, if it is to the speaker and about the atom.",
        TickEdgeTests::closedByAsserting);
    Edges.of(TICKS, "ANSWER: the top question is closed, the turn is about its atom, and the"
        + " speaker is committed, but by 0.", TickEdgeTests::answers);
    Edges.of(TICKS, "DROP: the top question is closed.", TickEdgeTests::drops);
    Edges.of(TICKS, "REPEAT: the turn that it is about is delivered again, in its own language.",
        TickEdgeTests::repeats);
    Edges.of(TICKS, "DENY: the speaker is committed to the contrary; if the one who claimed it"
        + " still is committed to it, there is a quarrel between both about the atom, in which"
        + " that one asserts (it is then the latest one, if there was the same).",
        TickEdgeTests::denials);
    Edges.of(TICKS, "its quarrels about that, in which it asserts, end.", TickEdgeTests::reasons);
    Edges.of(TICKS, "RETRACT: the speaker is committed to nothing about it.",
        TickEdgeTests::retracts);
    Edges.of(TICKS, "HINT: that is its hint of the atom, in place of another one. CANCEL: it has"
        + " none.", TickEdgeTests::hintsInPlace);
    Edges.of(TICKS, "- OFFER: it is open; those by the speaker to the same one, and by that one to"
        + " the speaker, are not any more.", TickEdgeTests::offersInPlace);
    Edges.of(TICKS, "ACCEPT: the offer is open no more; if both own still what it tells, the goods"
        + " go to the other one each, and the value of this turn, the ACCEPT, is 1, otherwise 0.",
        TickEdgeTests::accepts);
    Edges.of(TICKS, "REJECT: the offer is open no more.", TickEdgeTests::rejects);
  }

  private static void closedByAsserting() {
    Talk talk = new Talk();
    talk.asserts(1, 0, YES);
    Check.same("none is open", talk.room.questions(), 0);
    talk.asks(0, 0, 1);
    talk.asks(0, 9, 1);
    talk.asserts(1, 0, YES);
    Check.same("about the one below", talk.room.questions(), 2);
    talk.asserts(2, 9, YES);
    Check.same("to another", talk.room.questions(), 2);
    talk.asserts(0, 9, YES);
    Check.same("by the one who asked", talk.room.questions(), 2);
    talk.asserts(1, 9, NO);
    Check.same("the top one", talk.room.questions(), 1);
    talk.asserts(1, 0, NO);
    Check.same("the last one", talk.room.questions(), 0);
  }

  private static void answers() {
    Talk talk = new Talk();
    for (int value = 0; value <= NO; value++) {
      talk.asks(0, 4 + value, 1);
      int answer = talk.does(1, ParleyRoom.ANSWER, 99, value);
      Check.same("closed", talk.room.questions(), 0);
      Check.same("about its atom", talk.room.turn(answer, 2), 4 + value);
      Check.same("value", talk.room.turn(answer, 3), value);
      Check.same("committed, but by 0", talk.room.stand(1, 4 + value), value);
    }
    talk.asks(0, 6, 1);
    talk.does(1, ParleyRoom.ANSWER, 99, 0);
    Check.same("0 takes nothing back", talk.room.stand(1, 6), NO);
  }

  private static void drops() {
    Talk talk = new Talk();
    talk.room.believe(0, 0, NO);
    talk.asks(0, 0, 1);
    talk.asks(0, 1, 1);
    talk.does(0, ParleyRoom.DROP, 0, YES);
    Check.same("one is left", talk.room.question(0, 2), 0);
    talk.does(0, ParleyRoom.DROP, 0, YES);
    Check.same("none is left", talk.room.questions(), 0);
    Check.same("nobody is committed", talk.room.stand(0, 0) + talk.room.stand(1, 0), 0);
  }

  private static void repeats() {
    Talk talk = new Talk();
    talk.room.knows(0, 3, 1, false);
    int turn = talk.does(0, ParleyRoom.HINT, 0, YES, Talk.to(1, 2), NONE);
    talk.room.knows(0, 3, 0, false);
    talk.room.knows(1, 3, 0, false);
    int repeat = talk.does(0, ParleyRoom.REPEAT, turn, 0, Talk.to(3), NONE);
    Check.same("one knows its language now", talk.room.heard(turn, 1), ParleyRoom.HEARD);
    Check.same("one does not", talk.room.heard(turn, 2), ParleyRoom.MISSED);
    Check.same("it was not said to that one", talk.room.heard(turn, 3), 0);
    Check.same("nor the repeat to this one", talk.room.heard(repeat, 1), 0);
    talk.room.deafen(1, 5);
    talk.room.deafen(2, 5);
    talk.replies(0, ParleyRoom.REPEAT, turn);
    Check.same("what is HEARD stays", talk.room.heard(turn, 1), ParleyRoom.HEARD);
    Check.same("what is MISSED may be again", talk.room.heard(turn, 2), ParleyRoom.MISSED);
  }

  private static void denials() {
    for (int value = YES; value <= NO; value++) {
      Talk talk = new Talk();
      int claim = talk.asserts(0, 9, value);
      talk.replies(1, ParleyRoom.DENY, claim);
      Check.same("the contrary", talk.room.stand(1, 9), YES + NO - value);
      Check.same("a quarrel", talk.room.quarrels(), 1);
      talk.replies(1, ParleyRoom.DENY, claim);
      Check.same("the same one", talk.room.quarrels(), 1);
    }
    Talk retracted = new Talk();
    retracted.asserts(0, 9, YES);
    retracted.does(0, ParleyRoom.RETRACT, 9, 0);
    retracted.replies(1, ParleyRoom.DENY, 0);
    Check.same("committed to nothing", retracted.room.quarrels(), 0);
    Check.same("the contrary all the same", retracted.room.stand(1, 9), NO);
    Talk turned = new Talk();
    turned.asserts(0, 9, YES);
    turned.asserts(0, 9, NO);
    turned.replies(1, ParleyRoom.DENY, 0);
    Check.same("committed to the contrary", turned.room.quarrels(), 0);
    Talk again = new Talk();
    again.asserts(0, 9, YES);
    again.asserts(0, 9, YES);
    again.replies(1, ParleyRoom.DENY, 0);
    Check.same("committed by another turn", again.room.quarrels(), 1);
  }

  private static void reasons() {
    Talk talk = new Talk();
    talk.quarrel(0);
    talk.quarrel(9);
    talk.replies(2, ParleyRoom.DENY, 0);
    talk.does(1, ParleyRoom.BECAUSE, 0, 5);
    Check.same("of the one who denied", talk.room.quarrels(), 3);
    talk.does(0, ParleyRoom.BECAUSE, 0, 5);
    Check.same("of the one who asserts, with both", talk.room.quarrels(), 1);
    talk.does(0, ParleyRoom.BECAUSE, 0, 5);
    Check.same("without a quarrel", talk.room.quarrels(), 1);
    Check.same("a reason all the same", talk.room.isSupported(0, 0), true);
  }

  private static void retracts() {
    for (int value = YES; value <= NO; value++) {
      Talk talk = new Talk();
      talk.asserts(0, 9, value);
      talk.does(0, ParleyRoom.RETRACT, 9, value);
      Check.same("nothing", talk.room.stand(0, 9), 0);
      Check.same("by no turn", talk.room.standBy(0, 9), NONE);
      Check.same("anew", talk.room.standAnew(0, 9), 0);
      Check.notNow(talk.room, "once more", () -> talk.say(0, ParleyRoom.RETRACT, 9, 0));
    }
  }

  private static void hintsInPlace() {
    Talk talk = new Talk();
    talk.hints(0, 9, NO);
    talk.hints(0, 8, NO);
    talk.hints(0, 9, YES);
    Check.same("in place of the other one", talk.room.hint(0, 9), YES);
    Check.same("not of another atom's", talk.room.hint(0, 8), NO);
    talk.room.tick(2);
    Check.same("with its own time", talk.room.hint(0, 9), YES);
    talk.does(0, ParleyRoom.CANCEL, 9, 0);
    Check.same("none", talk.room.hint(0, 9), 0);
    Check.notNow(talk.room, "once more", () -> talk.say(0, ParleyRoom.CANCEL, 9, 0));
  }

  private static void offersInPlace() {
    Talk talk = new Talk();
    for (int good = 0; good < 3; good++) {
      talk.room.give(good, good);
    }
    int first = talk.offers(0, 1, 2, 1, 20);
    int third = talk.offers(2, 4, 2, 1, 20);
    int fourth = talk.offers(1, 2, 0, 3, 20);
    int fifth = talk.offers(2, 4, 1, 0, 20);
    int other = talk.offers(0, 1, 0, 3, 20);
    int second = talk.offers(0, 1, 0, 1, 20);
    Check.same("to the same one", talk.isOpen(first), false);
    Check.same("by that one to another", talk.isOpen(fourth), true);
    Check.same("by another to the speaker", talk.isOpen(fifth), true);
    int back = talk.offers(1, 2, 1, 0, 20);
    Check.same("by that one to the speaker", talk.isOpen(second), false);
    Check.same("open", talk.isOpen(back), true);
    Check.same("to another", talk.isOpen(other), true);
    Check.same("among others", talk.isOpen(third), true);
  }

  private static Talk offered() {
    Talk talk = new Talk();
    talk.room.give(0, 0);
    talk.room.give(7, 1);
    talk.offers(0, 1, 128, 1, 20);
    return talk;
  }

  private static void accepts() {
    Talk talk = offered();
    int accept = talk.does(1, ParleyRoom.ACCEPT, 0, Integer.MAX_VALUE);
    Check.same("the first good", talk.room.owner(0), 1);
    Check.same("the last good", talk.room.owner(7), 0);
    Check.same("value", talk.room.turn(accept, 3), 1);
    Check.same("open no more", talk.isOpen(0), false);
    for (int lost : new int[] {0, 7}) {
      for (int owner = NONE; owner <= 3; owner++) {
        Talk vain = offered();
        vain.room.give(lost, owner);
        boolean goes = owner == lost / 7;
        accept = vain.does(1, ParleyRoom.ACCEPT, 0, Integer.MAX_VALUE);
        Check.same("DONE", vain.state(accept), ParleyRoom.DONE);
        Check.same("value", vain.room.turn(accept, 3), goes ? 1 : 0);
        Check.same("deals", vain.room.deals(), goes ? 1 : 0);
        Check.same("the other good", vain.room.owner(7 - lost), (lost == 7) == goes ? 1 : 0);
        Check.same("open no more", vain.isOpen(0), false);
      }
    }
  }

  private static void rejects() {
    Talk talk = offered();
    int reject = talk.does(1, ParleyRoom.REJECT, 0, Integer.MIN_VALUE);
    Check.same("open no more", talk.isOpen(0), false);
    Check.same("nothing goes", talk.room.owner(0), 0);
    Check.same("value as told", talk.room.turn(reject, 3), Integer.MIN_VALUE);
  }

  // ---- quarrels and rights

  private static void quarrelsAndRights() {
    Edges.of(TICKS, "A quarrel ends, too, when the one who asserts is committed to nothing about"
        + " it, or the other one is not committed to the contrary of what that one is committed to"
        + " by now.", TickEdgeTests::quarrelsEnd);
    Edges.of(TICKS, "By ASK and OFFER the one to whom it is, by CLARIFY and DENY the one who said"
        + " the turn, has the right to the next turn, as long as the clock is at most 2 more than"
        + " it is as that is carried out.", TickEdgeTests::rights);
    Edges.of(TICKS, "When somebody is committed by its own turn as it is carried out (not by a"
        + " hint, or by silence) to what it believes to be the other way round, that is a lie,"
        + " each time anew.", TickEdgeTests::lies);
  }

  private static int quarrelsBehind(int speaker, int act, int about, int value) {
    Talk talk = new Talk();
    talk.quarrel(0);
    talk.does(speaker, act, about, value);
    return talk.room.quarrels();
  }

  private static void quarrelsEnd() {
    Check.same("one asserts it again", quarrelsBehind(0, ParleyRoom.ASSERT, 0, YES), 1);
    Check.same("one turns round", quarrelsBehind(0, ParleyRoom.ASSERT, 0, NO), 0);
    Check.same("one retracts", quarrelsBehind(0, ParleyRoom.RETRACT, 0, 0), 0);
    Check.same("the other one denies again", quarrelsBehind(1, ParleyRoom.ASSERT, 0, NO), 1);
    Check.same("the other one turns round", quarrelsBehind(1, ParleyRoom.ASSERT, 0, YES), 0);
    Check.same("the other one retracts", quarrelsBehind(1, ParleyRoom.RETRACT, 0, 0), 0);
    Check.same("the other one concedes", quarrelsBehind(1, ParleyRoom.CONCEDE, 0, 0), 0);
    Check.same("a third one asserts", quarrelsBehind(2, ParleyRoom.ASSERT, 0, YES), 1);
    Check.same("about another atom", quarrelsBehind(0, ParleyRoom.ASSERT, 1, NO), 1);
  }

  private static Talk withRight(int act) {
    Talk talk = new Talk();
    talk.room.give(0, 1);
    talk.room.deafen(1, 1);
    talk.does(2, ParleyRoom.ASSERT, 0, YES);
    talk.does(2, ParleyRoom.ASSERT, 0, YES);
    switch (act) {
      case ParleyRoom.ASK:
        talk.asks(1, 0, 2);
        break;
      case ParleyRoom.OFFER:
        talk.offers(1, 1, 0, 2, 20);
        break;
      case ParleyRoom.CLARIFY:
        talk.does(1, act, 0, 0, Talk.to(3), NONE);
        break;
      default:
        talk.does(1, act, 1, YES, Talk.to(3), NONE);
        break;
    }
    return talk;
  }

  private static void rights() {
    int[] acts = {ParleyRoom.ASK, ParleyRoom.OFFER, ParleyRoom.CLARIFY, ParleyRoom.DENY};
    for (int act : acts) {
      Talk talk = withRight(act);
      Check.same("clock 1 more", talk.room.next(), 2);
      talk.room.tick(1);
      Check.same("clock 2 more", talk.room.next(), 2);
      Check.same("the floor", winner(talk, 15), 2);
      talk = withRight(act);
      talk.room.tick(2);
      Check.same("clock 3 more", talk.room.next(), NONE);
      Check.same("no floor", winner(talk, 15), 0);
    }
    for (int act : new int[] {ParleyRoom.CONCEDE, ParleyRoom.ASSERT, ParleyRoom.HINT}) {
      Check.same("by other acts", withRight(act).room.next(), NONE);
    }
  }

  private static void lies() {
    for (int belief = 0; belief <= NO; belief++) {
      for (int value = YES; value <= NO; value++) {
        Talk talk = new Talk();
        talk.room.believe(0, 0, belief);
        int due = belief == YES + NO - value ? 1 : 0;
        talk.say(0, ParleyRoom.ASSERT, 0, value);
        Check.same("before it is carried out", talk.room.lies(0), 0);
        talk.room.tick(1);
        Check.same("believes " + belief + ", says " + value, talk.room.lies(0), due);
        talk.asserts(0, 0, value);
        Check.same("anew", talk.room.lies(0), 2 * due);
      }
    }
    Talk talk = new Talk();
    talk.room.strict(true);
    talk.room.believe(0, 1, YES);
    talk.room.believe(1, 0, YES);
    talk.asserts(0, 0, NO);
    int hint = talk.hints(0, 1, NO);
    talk.replies(2, ParleyRoom.ACK, hint);
    talk.room.tick(4);
    Check.same("by a hint", talk.room.stand(0, 1), NO);
    Check.same("is no lie", talk.room.lies(0), 0);
    Check.same("by silence", talk.room.stand(1, 0), NO);
    Check.same("is no lie either", talk.room.lies(1), 0);
  }

  // ---- hearing

  private static void hearing() {
    Edges.of(TICKS, "A turn is delivered to each one to whom it is said and who has not HEARD or"
        + " TAKEN it, and to whom it is not COMING", TickEdgeTests::deliveredAgain);
    Edges.of(TICKS, "it is MISSED by one who is deaf (the clock is below the one until which it"
        + " is)", TickEdgeTests::deaf);
    Edges.of(TICKS, "COMING, so that it is heard when the clock is 2 more, if there is an"
        + " interpreter: another one to whom it is said, who interprets, is not deaf, knows its"
        + " language and one that the hearer knows; otherwise MISSED.",
        TickEdgeTests::interpreters);
    Edges.of(TICKS, "What is COMING is HEARD then, but MISSED by one who is deaf then.",
        TickEdgeTests::deafThen);
  }

  private static void deliveredAgain() {
    Talk talk = foreign();
    talk.room.deafen(3, 1);
    int turn = talk.hints(0, 0, YES);
    talk.say(2, ParleyRoom.ACK, turn, 0);
    talk.say(0, ParleyRoom.REPEAT, turn, 0);
    talk.room.deafen(1, 1);
    talk.room.deafen(2, 1);
    talk.room.tick(1);
    Check.same("TAKEN stays", talk.room.heard(turn, 2), ParleyRoom.TAKEN);
    Check.same("COMING comes in its time", talk.room.heard(turn, 1), ParleyRoom.HEARD);
    Check.same("MISSED, as the interpreter is deaf", talk.room.heard(turn, 3), ParleyRoom.MISSED);
    talk.replies(0, ParleyRoom.REPEAT, turn);
    Check.same("MISSED may be COMING", talk.room.heard(turn, 3), ParleyRoom.COMING);
    Check.same("not to the speaker", talk.room.heard(turn, 0), 0);
  }

  private static void deaf() {
    Talk talk = new Talk();
    talk.room.tick(4);
    talk.room.deafen(1, 2);
    Check.same("clock 4 of 6", talk.room.heard(talk.hints(0, 0, YES), 1), ParleyRoom.MISSED);
    Check.same("clock 5 of 6", talk.room.heard(talk.hints(0, 0, YES), 1), ParleyRoom.MISSED);
    Check.same("clock 6 of 6", talk.room.heard(talk.hints(0, 0, YES), 1), ParleyRoom.HEARD);
  }

  private static int through(int languages, boolean interprets, int deafFor, int to) {
    Talk talk = new Talk();
    talk.room.knows(0, 2, 1, true);
    talk.room.knows(1, 5, 0, true);
    talk.room.knows(2, languages, Integer.numberOfTrailingZeros(languages), interprets);
    talk.room.deafen(2, deafFor);
    return talk.room.heard(talk.does(0, ParleyRoom.HINT, 0, YES, to, NONE), 1);
  }

  private static void interpreters() {
    int all = Talk.allBut(0);
    Check.same("one", through(3, true, 0, all), ParleyRoom.COMING);
    Check.same("through the other language", through(6, true, 0, all), ParleyRoom.COMING);
    Check.same("through any", through(7, true, 0, all), ParleyRoom.COMING);
    Check.same("who does not interpret", through(3, false, 0, all), ParleyRoom.MISSED);
    Check.same("who is deaf", through(3, true, 1, all), ParleyRoom.MISSED);
    Check.same("who does not know its language", through(5, true, 0, all), ParleyRoom.MISSED);
    Check.same("who knows none of the hearer's", through(2, true, 0, all), ParleyRoom.MISSED);
    Check.same("to whom it is not said", through(3, true, 0, Talk.to(1, 3)), ParleyRoom.MISSED);
    Check.same("none but hearer and speaker", through(3, true, 0, Talk.to(1)), ParleyRoom.MISSED);
    Talk talk = foreign();
    talk.room.knows(1, 4, 2, false);
    talk.room.knows(2, 6, 2, true);
    int turn = talk.say(0, ParleyRoom.HINT, 0, YES);
    talk.room.knows(0, 1, 0, false);
    talk.room.tick(1);
    Check.same("its language, as it was said", talk.room.heard(turn, 1), ParleyRoom.COMING);
    turn = talk.say(0, ParleyRoom.HINT, 0, YES);
    talk.room.knows(0, 2, 1, false);
    talk.room.tick(1);
    Check.same("not that of the tick", talk.room.heard(turn, 1), ParleyRoom.MISSED);
  }

  private static void deafThen() {
    for (int ticks = 0; ticks <= 2; ticks++) {
      Talk talk = foreign();
      int turn = talk.hints(0, 0, YES);
      talk.room.deafen(1, ticks);
      talk.room.tick(1);
      Check.same("deaf for " + ticks, talk.room.heard(turn, 1),
          ticks == 2 ? ParleyRoom.MISSED : ParleyRoom.HEARD);
      talk.room.tick(2);
      Check.same("and so it stays", talk.room.heard(turn, 1),
          ticks == 2 ? ParleyRoom.MISSED : ParleyRoom.HEARD);
    }
  }
}
