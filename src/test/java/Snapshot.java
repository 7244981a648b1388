/** All that can be asked of a room, as one text. */
final class Snapshot {
  private Snapshot() {}

  static String of(ParleyRoom room) {
    StringBuilder text = new StringBuilder();
    add(text, room.clock(), room.next(), room.said(), room.questions(), room.quarrels());
    add(text, room.deals(), room.minutes());
    for (int turn = 0; turn < room.said(); turn++) {
      addTurn(text, room, turn);
    }
    for (int place = 0; place < room.questions(); place++) {
      for (int what = 0; what <= 3; what++) {
        add(text, room.question(place, what));
      }
    }
    for (int speaker = 0; speaker < 4; speaker++) {
      addSpeaker(text, room, speaker);
    }
    for (int good = 0; good < 8; good++) {
      add(text, room.owner(good));
    }
    for (int set = 1; set <= 15; set++) {
      for (int atom = 0; atom < 10; atom++) {
        add(text, room.ground(set, atom));
      }
    }
    return text.toString();
  }

  private static void addTurn(StringBuilder text, ParleyRoom room, int turn) {
    for (int what = 0; what <= 8; what++) {
      add(text, room.turn(turn, what));
    }
    for (int hearer = 0; hearer < 4; hearer++) {
      add(text, room.heard(turn, hearer));
    }
  }

  private static void addSpeaker(StringBuilder text, ParleyRoom room, int speaker) {
    add(text, room.lies(speaker));
    for (int atom = 0; atom < 10; atom++) {
      add(text, room.stand(speaker, atom), room.standBy(speaker, atom));
      add(text, room.standAnew(speaker, atom), room.hint(speaker, atom));
      add(text, room.isSupported(speaker, atom) ? 1 : 0);
    }
  }

  private static void add(StringBuilder text, int... numbers) {
    for (int number : numbers) {
      text.append(number).append(' ');
    }
  }
}
