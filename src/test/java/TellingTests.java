/** Promises 1 to 7: a new object, and what is told of speakers, goods and rules. */
final class TellingTests {
  private TellingTests() {}

  static void run() {
    newObject();
    power();
    knows();
    believe();
    deafen();
    give();
    strict();
  }

  private static void newObject() {
    ParleyRoom room = new ParleyRoom();
    Check.same("new: clock", room.clock(), 0);
    Check.same("new: next", room.next(), -1);
    Check.same("new: said", room.said(), 0);
    Check.same("new: questions", room.questions(), 0);
    Check.same("new: quarrels", room.quarrels(), 0);
    Check.same("new: deals", room.deals(), 0);
    Check.same("new: minutes", room.minutes(), 7);
    for (int speaker = 0; speaker < 4; speaker++) {
      Check.same("new: lies", room.lies(speaker), 0);
      Check.same("new: power", room.power(speaker, 0), 0);
      Check.same("new: knows", room.knows(speaker, 1, 0, false), 1);
      for (int atom = 0; atom < 10; atom++) {
        Check.same("new: stand", room.stand(speaker, atom), 0);
        Check.same("new: standBy", room.standBy(speaker, atom), -1);
        Check.same("new: standAnew", room.standAnew(speaker, atom), 0);
        Check.same("new: hint", room.hint(speaker, atom), 0);
        Check.same("new: isSupported", room.isSupported(speaker, atom), false);
        Check.same("new: believe", room.believe(speaker, atom, 0), 0);
      }
    }
    for (int good = 0; good < 8; good++) {
      Check.same("new: owner", room.owner(good), -1);
    }
    Check.same("new: ground", room.ground(15, 0), 0);
    Check.same("new: strict", room.strict(false), false);
    Check.same("two rooms are two", new ParleyRoom().power(0, 9) + new ParleyRoom().power(0, 9), 0);
  }

  private static void power() {
    ParleyRoom room = new ParleyRoom();
    Check.same("power to 9", room.power(3, 9), 0);
    Check.same("power to 0", room.power(3, 0), 9);
    Check.same("power of another", room.power(2, 4), 0);
    Check.same("power again", room.power(2, 4), 4);
    Check.noSuch(room, "power of -1", () -> room.power(-1, 0));
    Check.noSuch(room, "power of 4", () -> room.power(4, 0));
    Check.noSuch(room, "power of 4 to 10", () -> room.power(4, 10));
    Check.outOfRange(room, "power to -1", () -> room.power(0, -1));
    Check.outOfRange(room, "power to 10", () -> room.power(2, 10));
    Check.same("power after refusals", room.power(2, 0), 4);
  }

  private static void knows() {
    ParleyRoom room = new ParleyRoom();
    Check.same("knows all", room.knows(0, 7, 2, true), 1);
    Check.same("knows 1", room.knows(0, 2, 1, false), 7);
    Check.same("knows 0 of another", room.knows(1, 1, 0, false), 1);
    Check.noSuch(room, "knows of -1", () -> room.knows(-1, 1, 0, false));
    Check.noSuch(room, "knows of 4 with 0", () -> room.knows(4, 0, 0, false));
    Check.outOfRange(room, "knows 0", () -> room.knows(0, 0, 0, false));
    Check.outOfRange(room, "knows 8", () -> room.knows(0, 8, 0, false));
    Check.outOfRange(room, "knows 9", () -> room.knows(0, 9, 0, false));
    Check.outOfRange(room, "knows -1", () -> room.knows(0, -1, 0, false));
    Check.outOfRange(room, "speaks -1", () -> room.knows(0, 7, -1, false));
    Check.outOfRange(room, "speaks 3", () -> room.knows(0, 7, 3, false));
    Check.outOfRange(room, "speaks 32", () -> room.knows(0, 7, 32, false));
    Check.outOfRange(room, "speaks what it knows not", () -> room.knows(0, 5, 1, false));
    Check.same("knows after refusals", room.knows(0, 1, 0, false), 2);
  }

  private static void believe() {
    ParleyRoom room = new ParleyRoom();
    Check.same("believe yes", room.believe(3, 9, ParleyRoom.YES), 0);
    Check.same("believe no", room.believe(3, 9, ParleyRoom.NO), 1);
    Check.same("believe nothing", room.believe(3, 9, 0), 2);
    Check.same("believe another", room.believe(3, 8, 1), 0);
    Check.noSuch(room, "believe of -1", () -> room.believe(-1, 0, 0));
    Check.noSuch(room, "believe of 4", () -> room.believe(4, 0, 0));
    Check.noSuch(room, "believe atom -1", () -> room.believe(0, -1, 0));
    Check.noSuch(room, "believe atom 10 to be 3", () -> room.believe(0, 10, 3));
    Check.outOfRange(room, "believe -1", () -> room.believe(0, 0, -1));
    Check.outOfRange(room, "believe 3", () -> room.believe(3, 8, 3));
    Check.same("believe after refusals", room.believe(3, 8, 0), 1);
    Check.same("to believe is not to be committed", room.stand(3, 8), 0);
  }

  private static void deafen() {
    ParleyRoom room = new ParleyRoom();
    Check.same("deafen 20", room.deafen(0, 20), 20);
    room.tick(7);
    Check.same("deafen 3 at 7", room.deafen(0, 3), 10);
    Check.same("deafen 0 at 7", room.deafen(0, 0), 7);
    Check.noSuch(room, "deafen -1", () -> room.deafen(-1, 0));
    Check.noSuch(room, "deafen 4 for 21", () -> room.deafen(4, 21));
    Check.outOfRange(room, "deafen for -1", () -> room.deafen(0, -1));
    Check.outOfRange(room, "deafen for 21", () -> room.deafen(0, 21));
  }

  private static void give() {
    ParleyRoom room = new ParleyRoom();
    Check.same("give 7", room.give(7, 3), -1);
    Check.same("give 7 again", room.give(7, 0), 3);
    Check.same("take 7 from all", room.give(7, ParleyRoom.NONE), 0);
    Check.same("give 7 that is nobody's", room.give(7, 1), -1);
    Check.noSuch(room, "give -1", () -> room.give(-1, 0));
    Check.noSuch(room, "give 8", () -> room.give(8, 0));
    Check.noSuch(room, "give to -2", () -> room.give(7, -2));
    Check.noSuch(room, "give to 4", () -> room.give(7, 4));
    Check.same("owner after refusals", room.owner(7), 1);
  }

  private static void strict() {
    ParleyRoom room = new ParleyRoom();
    Check.same("strict on", room.strict(true), false);
    Check.same("strict stays", room.strict(true), true);
    Check.same("strict off", room.strict(false), true);
    Check.same("strict is off", room.strict(false), false);
  }
}
