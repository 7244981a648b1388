import java.util.ArrayList;

/**
 * Conversation as a machine: speakers say turns, ticks carry them out, and what follows from them
 * (commitments, questions, quarrels, hints, deals, lies) can be asked for.
 *
 * <p>Arguments are looked at where they come in: a Turn exists only when its act's atoms, goods,
 * turns and listeners do, so that all that is done with it later can use them as indices.
 */
public final class ParleyRoom {
  public static final int NONE = -1;

  public static final int YES = 1;
  public static final int NO = 2;

  public static final int ASSERT = 0;
  public static final int ASK = 1;
  public static final int ANSWER = 2;
  public static final int DROP = 3;
  public static final int ACK = 4;
  public static final int CLARIFY = 5;
  public static final int REPEAT = 6;
  public static final int CONCEDE = 7;
  public static final int DENY = 8;
  public static final int BECAUSE = 9;
  public static final int RETRACT = 10;
  public static final int HINT = 11;
  public static final int CANCEL = 12;
  public static final int OFFER = 13;
  public static final int ACCEPT = 14;
  public static final int REJECT = 15;

  public static final int SAID = 0;
  public static final int DONE = 1;
  public static final int LOST = 2;
  public static final int CHALLENGED = 3;
  public static final int VOID = 4;

  public static final int MISSED = 1;
  public static final int COMING = 2;
  public static final int HEARD = 3;
  public static final int TAKEN = 4;

  /** How an atom is held that is not, and what one has of a turn that did not reach it. */
  private static final int NOTHING = 0;

  private static final int SPEAKERS = 4;
  private static final int ALL_SPEAKERS = 15;
  private static final int ATOMS = 10;
  private static final int GOODS = 8;
  private static final int ALL_GOODS = 255;
  private static final int LANGUAGES = 3;
  private static final int ALL_LANGUAGES = 7;
  private static final int GREATEST_POWER = 9;
  private static final int MOST_TURNS = 100;
  private static final int MOST_QUESTIONS = 6;
  private static final int MOST_TICKS = 20;

  private static final int TICKS_OF_RIGHT = 2;
  private static final int TICKS_TO_INTERPRET = 2;
  private static final int TICKS_OF_HINT = 5;
  private static final int TICKS_OF_SILENCE = 6;

  private final Speaker[] speakers = new Speaker[SPEAKERS];
  private final int[] owners = new int[GOODS];
  private final ArrayList<Turn> turns = new ArrayList<>();
  /** The open questions, as the ASKs that put them; the top one is the last. */
  private final ArrayList<Turn> asked = new ArrayList<>();
  private final ArrayList<Step> steps = new ArrayList<>();
  private boolean strict;
  private int clock;
  private int entitled = NONE;
  private int entitledUntil;
  private int deals;

  public ParleyRoom() {
    for (int i = 0; i < SPEAKERS; i++) {
      speakers[i] = new Speaker(i);
    }
    for (int i = 0; i < GOODS; i++) {
      owners[i] = NONE;
    }
  }

  // ---- telling

  public int power(int speaker, int power)
      throws IndexOutOfBoundsException, IllegalArgumentException {
    needSpeaker(speaker);
    needRange(power, 0, GREATEST_POWER);
    int before = speakers[speaker].power;
    speakers[speaker].power = power;
    return before;
  }

  public int knows(int speaker, int languages, int speaks, boolean interprets)
      throws IndexOutOfBoundsException, IllegalArgumentException {
    needSpeaker(speaker);
    needRange(languages, 1, ALL_LANGUAGES);
    needRange(speaks, 0, LANGUAGES - 1);
    if (!isIn(languages, speaks)) {
      throw new IllegalArgumentException("it speaks a language that it does not know");
    }
    int before = speakers[speaker].languages;
    speakers[speaker].languages = languages;
    speakers[speaker].speaks = speaks;
    speakers[speaker].interprets = interprets;
    return before;
  }

  public int believe(int speaker, int atom, int value)
      throws IndexOutOfBoundsException, IllegalArgumentException {
    needSpeaker(speaker);
    needAtom(atom);
    needRange(value, NOTHING, NO);
    int before = speakers[speaker].beliefs[atom];
    speakers[speaker].beliefs[atom] = value;
    return before;
  }

  public int deafen(int speaker, int ticks)
      throws IndexOutOfBoundsException, IllegalArgumentException {
    needSpeaker(speaker);
    needRange(ticks, 0, MOST_TICKS);
    speakers[speaker].deafUntil = clock + ticks;
    return speakers[speaker].deafUntil;
  }

  public int give(int good, int owner) throws IndexOutOfBoundsException {
    needGood(good);
    if (owner != NONE) {
      needSpeaker(owner);
    }
    int before = owners[good];
    owners[good] = owner;
    return before;
  }

  public boolean strict(boolean is) {
    boolean before = strict;
    strict = is;
    return before;
  }

  public boolean can(int speaker, int act, int about, int value, int to, int given)
      throws IndexOutOfBoundsException, IllegalArgumentException {
    return canBeSaid(draft(speaker, act, about, value, to, given));
  }

  public int say(int speaker, int act, int about, int value, int to, int given)
      throws IndexOutOfBoundsException, IllegalArgumentException, IllegalStateException {
    Turn turn = draft(speaker, act, about, value, to, given);
    if (!canBeSaid(turn)) {
      throw new IllegalStateException("this turn can not be said now");
    }
    turns.add(turn);
    turn.speaker.saying = turn;
    return turn.number;
  }

  public int tick(int ticks) throws IllegalArgumentException {
    needRange(ticks, 1, MOST_TICKS);
    for (int i = 0; i < ticks; i++) {
      carryOutAcks();
      Turn floor = turnWithFloor();
      if (floor != null) {
        carryOut(floor);
      }
      loseWhatIsStillSaid();
      clock++;
      hearWhatComesLate();
      endHints();
      closeOverdueOffers();
      if (strict) {
        countSilence();
      }
    }
    return clock;
  }

  // ---- asking

  public int clock() {
    return clock;
  }

  public int next() {
    return clock <= entitledUntil ? entitled : NONE;
  }

  public int said() {
    return turns.size();
  }

  public int turn(int turn, int what) throws IndexOutOfBoundsException, IllegalArgumentException {
    Turn told = turnAt(turn);
    if (told == null) {
      throw new IndexOutOfBoundsException("no such turn");
    }
    switch (what) {
      case 0:
        return told.speaker.number;
      case 1:
        return told.act;
      case 2:
        return told.about;
      case 3:
        return told.value;
      case 4:
        return told.to;
      case 5:
        return told.given;
      case 6:
        return told.state;
      case 7:
        return told.carriedOutAt;
      case 8:
        return told.isOpen ? 1 : 0;
      default:
        throw new IllegalArgumentException("what is 0 to 8");
    }
  }

  public int heard(int turn, int hearer) throws IndexOutOfBoundsException {
    Turn told = turnAt(turn);
    if (told == null) {
      throw new IndexOutOfBoundsException("no such turn");
    }
    needSpeaker(hearer);
    return told.reached[hearer];
  }

  public int stand(int speaker, int atom) throws IndexOutOfBoundsException {
    needSpeaker(speaker);
    needAtom(atom);
    return speakers[speaker].held[atom];
  }

  public int standBy(int speaker, int atom) throws IndexOutOfBoundsException {
    needSpeaker(speaker);
    needAtom(atom);
    Turn by = speakers[speaker].heldBy[atom];
    return by == null ? NONE : by.number;
  }

  public int standAnew(int speaker, int atom) throws IndexOutOfBoundsException {
    needSpeaker(speaker);
    needAtom(atom);
    int held = NOTHING;
    for (int i = 0; i < steps.size(); i++) {
      Step step = steps.get(i);
      if (step.speaker == speaker && step.atom == atom) {
        held = step.value;
      }
    }
    return held;
  }

  public int hint(int speaker, int atom) throws IndexOutOfBoundsException {
    needSpeaker(speaker);
    needAtom(atom);
    Turn hint = speakers[speaker].hints[atom];
    return hint == null ? NOTHING : hint.value;
  }

  public boolean isSupported(int speaker, int atom) throws IndexOutOfBoundsException {
    needSpeaker(speaker);
    needAtom(atom);
    Speaker who = speakers[speaker];
    if (who.held[atom] == NOTHING) {
      return false;
    }
    for (int reason = 0; reason < ATOMS; reason++) {
      if (isIn(who.reasons[atom], reason) && who.held[reason] == YES) {
        return true;
      }
    }
    return false;
  }

  public int lies(int speaker) throws IndexOutOfBoundsException {
    needSpeaker(speaker);
    return speakers[speaker].lies;
  }

  public int ground(int set, int atom) throws IndexOutOfBoundsException, IllegalArgumentException {
    needAtom(atom);
    needRange(set, 1, ALL_SPEAKERS);
    if (isGround(set, atom, YES)) {
      return YES;
    }
    return isGround(set, atom, NO) ? NO : NOTHING;
  }

  public int questions() {
    return asked.size();
  }

  public int question(int place, int what)
      throws IndexOutOfBoundsException, IllegalArgumentException {
    if (place < 0 || place >= asked.size()) {
      throw new IndexOutOfBoundsException("no such question");
    }
    Turn ask = asked.get(asked.size() - 1 - place);
    switch (what) {
      case 0:
        return ask.speaker.number;
      case 1:
        return ask.listener();
      case 2:
        return ask.about;
      case 3:
        return ask.number;
      default:
        throw new IllegalArgumentException("what is 0 to 3");
    }
  }

  public int quarrels() {
    int count = 0;
    for (int i = 0; i < SPEAKERS; i++) {
      for (int j = 0; j < SPEAKERS; j++) {
        count += Integer.bitCount(speakers[i].disputes[j]);
      }
    }
    return count;
  }

  public int owner(int good) throws IndexOutOfBoundsException {
    needGood(good);
    return owners[good];
  }

  public int deals() {
    return deals;
  }

  public int minutes() {
    int sum = 7;
    for (int i = 0; i < turns.size(); i++) {
      Turn turn = turns.get(i);
      sum = 31 * sum + turn.speaker.number;
      sum = 31 * sum + turn.act;
      sum = 31 * sum + turn.about;
      sum = 31 * sum + turn.value;
      sum = 31 * sum + turn.to;
      sum = 31 * sum + turn.state;
    }
    return sum;
  }

  // ---- what there is

  private static void needSpeaker(int speaker) {
    if (speaker < 0 || speaker >= SPEAKERS) {
      throw new IndexOutOfBoundsException("no such speaker");
    }
  }

  private static void needAtom(int atom) {
    if (!isAtom(atom)) {
      throw new IndexOutOfBoundsException("no such atom");
    }
  }

  private static void needGood(int good) {
    if (good < 0 || good >= GOODS) {
      throw new IndexOutOfBoundsException("no such good");
    }
  }

  private static void needRange(int number, int least, int most) {
    if (!isWithin(number, least, most)) {
      throw new IllegalArgumentException("an argument is out of its range");
    }
  }

  private static boolean isWithin(int number, int least, int most) {
    return number >= least && number <= most;
  }

  private static boolean isAtom(int atom) {
    return isWithin(atom, 0, ATOMS - 1);
  }

  /** Whether a set of bits has a place, 0 to 31, in it. */
  private static boolean isIn(int set, int place) {
    return (set >> place & 1) == 1;
  }

  private static int contrary(int value) {
    return YES + NO - value;
  }

  private Turn turnAt(int number) {
    return number >= 0 && number < turns.size() ? turns.get(number) : null;
  }

  private Turn topQuestion() {
    return asked.isEmpty() ? null : asked.get(asked.size() - 1);
  }

  // ---- what can be said

  private Turn draft(int speaker, int act, int about, int value, int to, int given) {
    needSpeaker(speaker);
    Turn turn = new Turn(speakers[speaker], act, about, value, to, given);
    if (!isWithin(to, 1, ALL_SPEAKERS) || isIn(to, speaker) || !isWellTold(turn)) {
      throw new IllegalArgumentException("an argument is not as told of the act");
    }
    turn.number = turns.size();
    return turn;
  }

  private boolean isWellTold(Turn turn) {
    switch (turn.act) {
      case ASSERT:
        return isAtom(turn.about) && isWithin(turn.value, YES, NO) && isAtomOrNone(turn.given);
      case ASK:
        return isAtom(turn.about) && isAtomOrNone(turn.given) && turn.isToOneAlone();
      case ANSWER:
        return isWithin(turn.value, NOTHING, NO);
      case DROP:
        return true;
      case ACK:
      case CLARIFY:
      case REPEAT:
      case CONCEDE:
      case DENY:
      case ACCEPT:
      case REJECT:
        return turnAt(turn.about) != null;
      case BECAUSE:
        return isAtom(turn.about) && isAtom(turn.value) && turn.about != turn.value;
      case RETRACT:
      case CANCEL:
        return isAtom(turn.about);
      case HINT:
        return isAtom(turn.about) && isWithin(turn.value, YES, NO);
      case OFFER:
        return isWellOffered(turn);
      default:
        return false;
    }
  }

  private static boolean isAtomOrNone(int atom) {
    return atom == NONE || isAtom(atom);
  }

  private static boolean isWellOffered(Turn offer) {
    return isWithin(offer.about, 0, ALL_GOODS)
        && isWithin(offer.value, 0, ALL_GOODS)
        && (offer.about | offer.value) != 0
        && isWithin(offer.given, 1, MOST_TICKS)
        && offer.isToOneAlone();
  }

  private boolean canBeSaid(Turn turn) {
    return turn.speaker.saying == null
        && turns.size() < MOST_TURNS
        && isPossible(turn)
        && isPermitted(turn);
  }

  private boolean isPossible(Turn turn) {
    Turn question = topQuestion();
    switch (turn.act) {
      case ASSERT:
      case HINT:
        return true;
      case ASK:
        return asked.size() < MOST_QUESTIONS;
      case ANSWER:
        return question != null && question.isTo(turn.speaker);
      case DROP:
        return question != null && question.speaker == turn.speaker;
      case BECAUSE:
      case RETRACT:
        return turn.speaker.held[turn.about] != NOTHING;
      case CANCEL:
        return turn.speaker.hints[turn.about] != null;
      case OFFER:
        return bothOwn(turn);
      default:
        Turn target = turnAt(turn.about);
        return target != null && target.state == DONE && isPossibleReply(turn, target);
    }
  }

  /** The target is DONE. */
  private static boolean isPossibleReply(Turn turn, Turn target) {
    int reached = target.reached[turn.speaker.number];
    boolean understood = reached == HEARD || reached == TAKEN;
    switch (turn.act) {
      case ACK:
        return reached == HEARD;
      case CLARIFY:
        return reached == MISSED;
      case REPEAT:
        return target.speaker == turn.speaker && target.hasReachedSomebody(MISSED);
      case CONCEDE:
      case DENY:
        return target.isClaim() && understood;
      case ACCEPT:
      case REJECT:
        return target.isOpen && target.isTo(turn.speaker) && understood;
      default:
        return false;
    }
  }

  private boolean isPermitted(Turn turn) {
    if (!strict || turn.act == ACK || turn.act == CLARIFY || turn.act == REPEAT) {
      return true;
    }
    Turn question = topQuestion();
    if (question != null && question.isTo(turn.speaker)) {
      return turn.act == ANSWER || turn.act == ASSERT && turn.about == question.about;
    }
    int disputed = turn.speaker.disputedAtoms();
    if (disputed == 0) {
      return true;
    }
    return (turn.act == BECAUSE || turn.act == RETRACT) && isIn(disputed, turn.about);
  }

  // ---- a tick's turns

  private void carryOutAcks() {
    for (int i = 0; i < SPEAKERS; i++) {
      Turn turn = speakers[i].saying;
      if (turn != null && turn.act == ACK) {
        carryOut(turn);
      }
    }
  }

  /** Called behind the ACKs, so that none of these is SAID any more. */
  private Turn turnWithFloor() {
    int first = next();
    Turn best = null;
    for (int i = 0; i < SPEAKERS; i++) {
      Turn turn = speakers[i].saying;
      if (turn != null && turn.state == SAID) {
        if (i == first) {
          return turn;
        }
        if (best == null || turn.speaker.power > best.speaker.power) {
          best = turn;
        }
      }
    }
    return best;
  }

  private void loseWhatIsStillSaid() {
    for (int i = 0; i < SPEAKERS; i++) {
      Turn turn = speakers[i].saying;
      if (turn != null && turn.state == SAID) {
        turn.state = LOST;
      }
      speakers[i].saying = null;
    }
  }

  private void carryOut(Turn turn) {
    if (!isPossible(turn) || !isPermitted(turn)) {
      turn.state = VOID;
      return;
    }
    turn.carriedOutAt = clock;
    deliver(turn);
    if (turn.act != ACK) {
      entitled = NONE;
    }
    if (turn.takesForGiven()) {
      if (isDoubted(turn)) {
        turn.state = CHALLENGED;
        return;
      }
      if (turn.speaker.held[turn.given] != YES) {
        commitOwn(turn, turn.given, YES);
      }
    }
    turn.state = DONE;
    perform(turn);
  }

  private boolean isDoubted(Turn turn) {
    for (int i = 0; i < SPEAKERS; i++) {
      if (turn.isTo(speakers[i]) && speakers[i].held[turn.given] == NO) {
        return true;
      }
    }
    return false;
  }

  private void perform(Turn turn) {
    switch (turn.act) {
      case ASSERT:
        assertAtom(turn);
        break;
      case ASK:
        asked.add(turn);
        entitle(turn.listener());
        break;
      case ANSWER:
        answerTopQuestion(turn);
        break;
      case DROP:
        closeTopQuestion();
        break;
      case BECAUSE:
        giveReason(turn);
        break;
      case RETRACT:
        commit(turn.speaker, turn.about, NOTHING, turn);
        break;
      case HINT:
        turn.speaker.hints[turn.about] = turn;
        break;
      case CANCEL:
        turn.speaker.hints[turn.about] = null;
        break;
      case OFFER:
        openOffer(turn);
        entitle(turn.listener());
        break;
      default:
        performReply(turn, turnAt(turn.about));
        break;
    }
  }

  private void performReply(Turn turn, Turn target) {
    if (target == null) {
      return;
    }
    switch (turn.act) {
      case ACK:
        target.reached[turn.speaker.number] = TAKEN;
        break;
      case CLARIFY:
        entitle(target.speaker.number);
        break;
      case REPEAT:
        deliver(target);
        break;
      case CONCEDE:
        commitOwn(turn, target.about, target.value);
        break;
      case DENY:
        denyClaim(turn, target);
        entitle(target.speaker.number);
        break;
      case ACCEPT:
        acceptOffer(turn, target);
        break;
      case REJECT:
        target.isOpen = false;
        break;
      default:
        break;
    }
  }

  private void entitle(int speaker) {
    entitled = speaker;
    entitledUntil = clock + TICKS_OF_RIGHT;
  }

  // ---- questions

  private void assertAtom(Turn turn) {
    commitOwn(turn, turn.about, turn.value);
    Turn question = topQuestion();
    if (question != null && question.isTo(turn.speaker) && question.about == turn.about) {
      closeTopQuestion();
    }
  }

  private void answerTopQuestion(Turn turn) {
    Turn question = topQuestion();
    if (question == null) {
      return;
    }
    closeTopQuestion();
    turn.about = question.about;
    if (turn.value != NOTHING) {
      commitOwn(turn, turn.about, turn.value);
    }
  }

  private void closeTopQuestion() {
    if (!asked.isEmpty()) {
      asked.remove(asked.size() - 1);
    }
  }

  // ---- commitments and quarrels

  /** Commits by a turn of one's own as it is carried out: only so can it be a lie. */
  private void commitOwn(Turn turn, int atom, int value) {
    if (turn.speaker.beliefs[atom] == contrary(value)) {
      turn.speaker.lies++;
    }
    commit(turn.speaker, atom, value, turn);
  }

  private void commit(Speaker who, int atom, int value, Turn by) {
    who.held[atom] = value;
    who.heldBy[atom] = value == NOTHING ? null : by;
    steps.add(new Step(who.number, atom, value));
    endSettledQuarrels(atom);
  }

  /** Called at each commitment, as a quarrel that ended does not come back with the next one. */
  private void endSettledQuarrels(int atom) {
    for (int i = 0; i < SPEAKERS; i++) {
      int asserted = speakers[i].held[atom];
      for (int j = 0; j < SPEAKERS; j++) {
        int opposed = speakers[j].held[atom];
        if (asserted == NOTHING || opposed == NOTHING || asserted == opposed) {
          speakers[i].disputes[j] &= ~(1 << atom);
        }
      }
    }
  }

  private void denyClaim(Turn turn, Turn claim) {
    commitOwn(turn, claim.about, contrary(claim.value));
    Speaker asserter = claim.speaker;
    if (asserter.held[claim.about] == claim.value) {
      asserter.disputes[turn.speaker.number] |= 1 << claim.about;
    }
  }

  private void giveReason(Turn turn) {
    Speaker who = turn.speaker;
    commitOwn(turn, turn.value, YES);
    who.reasons[turn.about] |= 1 << turn.value;
    for (int i = 0; i < SPEAKERS; i++) {
      who.disputes[i] &= ~(1 << turn.about);
    }
  }

  private boolean isGround(int set, int atom, int value) {
    for (int i = 0; i < SPEAKERS; i++) {
      if (isIn(set, i) && speakers[i].held[atom] == value && areWith(speakers[i], set, atom)) {
        return true;
      }
    }
    return false;
  }

  /** Whether all others of the set follow one who is committed about the atom. */
  private boolean areWith(Speaker one, int set, int atom) {
    int value = one.held[atom];
    Turn by = one.heldBy[atom];
    for (int i = 0; i < SPEAKERS; i++) {
      if (isIn(set, i) && i != one.number) {
        int held = speakers[i].held[atom];
        boolean took = by != null && by.reached[i] == TAKEN && held != contrary(value);
        if (!took && held != value) {
          return false;
        }
      }
    }
    return true;
  }

  // ---- goods

  private boolean bothOwn(Turn offer) {
    return ownsAll(offer.speaker.number, offer.about) && ownsAll(offer.listener(), offer.value);
  }

  private boolean ownsAll(int owner, int goods) {
    for (int i = 0; i < GOODS; i++) {
      if (isIn(goods, i) && owners[i] != owner) {
        return false;
      }
    }
    return true;
  }

  private void openOffer(Turn offer) {
    for (int i = 0; i < turns.size(); i++) {
      Turn other = turns.get(i);
      boolean same = other.speaker == offer.speaker && other.listener() == offer.listener();
      if (same || other.isTo(offer.speaker) && offer.isTo(other.speaker)) {
        other.isOpen = false;
      }
    }
    offer.isOpen = true;
  }

  private void acceptOffer(Turn turn, Turn offer) {
    offer.isOpen = false;
    turn.value = 0;
    if (bothOwn(offer)) {
      turn.value = 1;
      handOver(offer.about, offer.listener());
      handOver(offer.value, offer.speaker.number);
      deals++;
    }
  }

  private void handOver(int goods, int owner) {
    for (int i = 0; i < GOODS; i++) {
      if (isIn(goods, i)) {
        owners[i] = owner;
      }
    }
  }

  // ---- hearing

  private void deliver(Turn turn) {
    for (int i = 0; i < SPEAKERS; i++) {
      Speaker hearer = speakers[i];
      if (turn.isTo(hearer) && (turn.reached[i] == NOTHING || turn.reached[i] == MISSED)) {
        turn.reached[i] = reachOf(turn, hearer);
        turn.reachedAt[i] = clock + (turn.reached[i] == COMING ? TICKS_TO_INTERPRET : 0);
      }
    }
  }

  private int reachOf(Turn turn, Speaker hearer) {
    if (hearer.isDeafAt(clock)) {
      return MISSED;
    }
    if (isIn(hearer.languages, turn.language)) {
      return HEARD;
    }
    for (int i = 0; i < SPEAKERS; i++) {
      Speaker other = speakers[i];
      if (other != hearer && turn.isTo(other) && other.interprets && !other.isDeafAt(clock)
          && isIn(other.languages, turn.language) && (other.languages & hearer.languages) != 0) {
        return COMING;
      }
    }
    return MISSED;
  }

  // ---- what a tick ends

  private void hearWhatComesLate() {
    for (int i = 0; i < turns.size(); i++) {
      Turn turn = turns.get(i);
      for (int j = 0; j < SPEAKERS; j++) {
        if (turn.reached[j] == COMING && turn.reachedAt[j] == clock) {
          turn.reached[j] = speakers[j].isDeafAt(clock) ? MISSED : HEARD;
        }
      }
    }
  }

  private void endHints() {
    for (int i = 0; i < SPEAKERS; i++) {
      Speaker who = speakers[i];
      for (int atom = 0; atom < ATOMS; atom++) {
        Turn hint = who.hints[atom];
        if (hint != null && clock - hint.carriedOutAt >= TICKS_OF_HINT) {
          who.hints[atom] = null;
          if (hint.hasReachedSomebody(TAKEN)) {
            commit(who, atom, hint.value, hint);
          }
        }
      }
    }
  }

  private void closeOverdueOffers() {
    for (int i = 0; i < turns.size(); i++) {
      Turn turn = turns.get(i);
      if (turn.isOpen && clock - turn.carriedOutAt > turn.given) {
        turn.isOpen = false;
      }
    }
  }

  private void countSilence() {
    for (int i = 0; i < turns.size(); i++) {
      Turn turn = turns.get(i);
      if (turn.isClaim()) {
        for (int j = 0; j < SPEAKERS; j++) {
          if (isAcceptedBySilence(turn, speakers[j])) {
            commit(speakers[j], turn.about, turn.value, turn);
          }
        }
      }
    }
  }

  private boolean isAcceptedBySilence(Turn claim, Speaker hearer) {
    int reached = claim.reached[hearer.number];
    return (reached == HEARD || reached == TAKEN)
        && clock - claim.reachedAt[hearer.number] == TICKS_OF_SILENCE
        && hearer.held[claim.about] == NOTHING
        && claim.speaker.held[claim.about] == claim.value;
  }

  private static final class Speaker {
    final int number;
    int power;
    int languages = 1;
    int speaks;
    boolean interprets;
    int deafUntil;
    int lies;
    /** What it has said since the last tick, or null. */
    Turn saying;
    final int[] beliefs = new int[ATOMS];
    final int[] held = new int[ATOMS];
    /** By which turns it is committed; null where it is to nothing. */
    final Turn[] heldBy = new Turn[ATOMS];
    final Turn[] hints = new Turn[ATOMS];
    /** By an atom: the other atoms that it told as reasons, as a set of bits. */
    final int[] reasons = new int[ATOMS];
    /** By another speaker: the atoms of their quarrels in which this one asserts, as bits. */
    final int[] disputes = new int[SPEAKERS];

    Speaker(int number) {
      this.number = number;
    }

    boolean isDeafAt(int clock) {
      return clock < deafUntil;
    }

    int disputedAtoms() {
      int atoms = 0;
      for (int i = 0; i < SPEAKERS; i++) {
        atoms |= disputes[i];
      }
      return atoms;
    }
  }

  private static final class Turn {
    final Speaker speaker;
    final int act;
    final int to;
    final int given;
    final int language;
    int number;
    int about;
    int value;
    int state = SAID;
    int carriedOutAt = NONE;
    boolean isOpen;
    /** By hearer: what it has of the turn. */
    final int[] reached = new int[SPEAKERS];
    /** By hearer: the clock at which it has that, or will have it. */
    final int[] reachedAt = new int[SPEAKERS];

    Turn(Speaker speaker, int act, int about, int value, int to, int given) {
      this.speaker = speaker;
      this.act = act;
      this.about = about;
      this.value = value;
      this.to = to;
      this.given = given;
      this.language = speaker.speaks;
    }

    boolean isTo(Speaker other) {
      return isIn(to, other.number);
    }

    boolean isToOneAlone() {
      return Integer.bitCount(to) == 1;
    }

    /** The first one to whom it is; where it is to one alone, that one. */
    int listener() {
      for (int i = 0; i < SPEAKERS; i++) {
        if (isIn(to, i)) {
          return i;
        }
      }
      return NONE;
    }

    boolean takesForGiven() {
      return (act == ASSERT || act == ASK) && isAtom(given);
    }

    boolean isClaim() {
      return state == DONE && (act == ASSERT || act == ANSWER && value != NOTHING);
    }

    boolean hasReachedSomebody(int how) {
      for (int i = 0; i < SPEAKERS; i++) {
        if (reached[i] == how) {
          return true;
        }
      }
      return false;
    }
  }

  /** That a speaker's commitment about an atom was set, in the order in which it was done. */
  private static final class Step {
    final int speaker;
    final int atom;
    final int value;

    Step(int speaker, int atom, int value) {
      this.speaker = speaker;
      this.atom = atom;
      this.value = value;
    }
  }
}
