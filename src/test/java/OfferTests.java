/** Promises 6, 10, 14, 26 and 27: goods, offers with last ticks, and deals. */
final class OfferTests {
  private OfferTests() {}

  static void run() {
    accept();
    acceptInVain();
    reject();
    lastTicks();
    oneBetweenTwo();
    arguments();
  }

  /** Speaker 0 has the goods 0 and 1, speaker 1 has 2 and 3, speaker 2 has 4. */
  private static Talk market() {
    Talk talk = new Talk();
    talk.room.give(0, 0);
    talk.room.give(1, 0);
    talk.room.give(2, 1);
    talk.room.give(3, 1);
    talk.room.give(4, 2);
    return talk;
  }

  private static void owners(Talk talk, int... due) {
    for (int good = 0; good < due.length; good++) {
      Check.same("owner of " + good, talk.room.owner(good), due[good]);
    }
  }

  private static void accept() {
    Talk talk = market();
    int offer = talk.offers(0, 3, 4, 1, 5);
    Check.same("open", talk.isOpen(offer), true);
    owners(talk, 0, 0, 1, 1, 2, -1, -1, -1);
    int accept = talk.does(1, ParleyRoom.ACCEPT, offer, 55);
    owners(talk, 1, 1, 0, 1, 2, -1, -1, -1);
    Check.same("value of the accept", talk.room.turn(accept, 3), 1);
    Check.same("value of the offer", talk.room.turn(offer, 3), 4);
    Check.same("open no more", talk.isOpen(offer), false);
    Check.same("deals", talk.room.deals(), 1);
    int gift = talk.offers(2, 16, 0, 3, 5);
    talk.replies(3, ParleyRoom.ACK, gift);
    talk.replies(3, ParleyRoom.ACCEPT, gift);
    owners(talk, 1, 1, 0, 1, 3, -1, -1, -1);
    Check.same("deals with a gift", talk.room.deals(), 2);
    int wish = talk.offers(2, 0, 16, 3, 5);
    talk.replies(3, ParleyRoom.ACCEPT, wish);
    owners(talk, 1, 1, 0, 1, 2, -1, -1, -1);
    Check.same("deals with a wish", talk.room.deals(), 3);
  }

  private static void acceptInVain() {
    Talk talk = market();
    int offer = talk.offers(0, 3, 4, 1, 5);
    talk.room.give(1, 2);
    int accept = talk.does(1, ParleyRoom.ACCEPT, offer, 55);
    Check.same("done all the same", talk.state(accept), ParleyRoom.DONE);
    Check.same("value in vain", talk.room.turn(accept, 3), 0);
    Check.same("open no more", talk.isOpen(offer), false);
    Check.same("no deal", talk.room.deals(), 0);
    owners(talk, 0, 2, 1, 1, 2, -1, -1, -1);
    offer = talk.offers(0, 1, 12, 1, 5);
    talk.room.give(3, -1);
    accept = talk.say(1, ParleyRoom.ACCEPT, offer, 55);
    Check.same("value as told", talk.room.turn(accept, 3), 55);
    talk.room.tick(1);
    Check.same("value in vain by the other one", talk.room.turn(accept, 3), 0);
    owners(talk, 0, 2, 1, -1, 2, -1, -1, -1);
    Check.same("still no deal", talk.room.deals(), 0);
    int claim = talk.asserts(1, 4, 1);
    talk.replies(0, ParleyRoom.DENY, claim);
    Check.same("a denial is no deal", talk.room.deals(), 0);
  }

  private static void reject() {
    Talk talk = market();
    int offer = talk.offers(0, 1, 4, 1, 20);
    int rejection = talk.does(1, ParleyRoom.REJECT, offer, 7);
    Check.same("rejected", talk.isOpen(offer), false);
    Check.same("value of the rejection", talk.room.turn(rejection, 3), 7);
    Check.same("no deal", talk.room.deals(), 0);
    owners(talk, 0, 0, 1, 1, 2, -1, -1, -1);
  }

  private static void lastTicks() {
    Talk talk = market();
    int offer = talk.offers(0, 1, 4, 1, 1);
    Check.same("1 tick of 1", talk.isOpen(offer), true);
    talk.room.tick(1);
    Check.same("2 ticks of 1", talk.isOpen(offer), false);
    offer = talk.offers(0, 1, 4, 1, 3);
    talk.room.tick(2);
    Check.same("3 ticks of 3", talk.isOpen(offer), true);
    int accept = talk.replies(1, ParleyRoom.ACCEPT, offer);
    Check.same("accepted in time", talk.room.turn(accept, 3), 1);
    int late = talk.offers(0, 2, 8, 1, 3);
    talk.room.tick(3);
    Check.same("4 ticks of 3", talk.isOpen(late), false);
    Check.notNow(talk.room, "accepted late", () -> talk.say(1, ParleyRoom.ACCEPT, late, 0));
    int longest = talk.offers(0, 2, 8, 1, 20);
    talk.room.tick(19);
    Check.same("20 ticks of 20", talk.isOpen(longest), true);
    talk.room.tick(1);
    Check.same("21 ticks of 20", talk.isOpen(longest), false);
  }

  private static void oneBetweenTwo() {
    Talk talk = market();
    int first = talk.offers(0, 1, 4, 1, 20);
    int other = talk.offers(0, 1, 16, 2, 20);
    Check.same("with another one", talk.isOpen(first) && talk.isOpen(other), true);
    int second = talk.offers(0, 2, 4, 1, 20);
    Check.same("in place of the first", talk.isOpen(first), false);
    Check.same("the other one stays", talk.isOpen(other), true);
    int back = talk.offers(1, 4, 1, 0, 20);
    Check.same("in place of what was offered", talk.isOpen(second), false);
    Check.same("it is open", talk.isOpen(back), true);
    int elsewhere = talk.offers(1, 4, 16, 2, 20);
    Check.same("elsewhere", talk.isOpen(back) && talk.isOpen(elsewhere), true);
    talk.replies(0, ParleyRoom.ACCEPT, back);
    Check.same("others stay open", talk.isOpen(other) && talk.isOpen(elsewhere), true);
    int vain = talk.replies(2, ParleyRoom.ACCEPT, other);
    Check.same("though they are in vain", talk.room.turn(vain, 3), 0);
  }

  private static void arguments() {
    ParleyRoom room = new ParleyRoom();
    Check.noSuch(room, "owner of -1", () -> room.owner(-1));
    Check.noSuch(room, "owner of 8", () -> room.owner(8));
  }
}
