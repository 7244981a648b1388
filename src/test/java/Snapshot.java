/** What a room answers without arguments: few calls, as no room is used for more than 512. */
final class Snapshot {
  private Snapshot() {}

  static String of(ParleyRoom room) {
    StringBuilder text = new StringBuilder();
    text.append("clock ").append(room.clock()).append(", next ").append(room.next());
    text.append(", said ").append(room.said()).append(", questions ").append(room.questions());
    text.append(", quarrels ").append(room.quarrels()).append(", deals ").append(room.deals());
    text.append(", minutes ").append(room.minutes());
    return text.toString();
  }
}
