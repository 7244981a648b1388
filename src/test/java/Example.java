/** The example of README.md, which ReadmeTests looks at: both are to be changed together. */
public final class Example {
  private Example() {}

  public static void main(String[] args) {
    ParleyRoom room = new ParleyRoom();
    int all = 14; // to the speakers 1, 2 and 3
    int claim = room.say(0, ParleyRoom.ASSERT, 3, ParleyRoom.YES, all, ParleyRoom.NONE);
    System.out.println(room.turn(claim, 6)); // 0, it is SAID
    System.out.println(room.tick(1)); // 1, the clock
    System.out.println(room.turn(claim, 6)); // 1, it is DONE
    System.out.println(room.heard(claim, 2)); // 3, speaker 2 has HEARD it

    int denial = room.say(1, ParleyRoom.DENY, claim, 0, 1, ParleyRoom.NONE); // to speaker 0
    room.tick(1);
    System.out.println(room.stand(1, 3)); // 2, speaker 1 is committed to NO
    System.out.println(room.standBy(1, 3) == denial); // true
    System.out.println(room.quarrels()); // 1
    System.out.println(room.next()); // 0, speaker 0 has the right to the next turn

    room.say(0, ParleyRoom.BECAUSE, 3, 4, all, ParleyRoom.NONE); // 3 is so, because 4 is
    room.tick(1);
    System.out.println(room.isSupported(0, 3)); // true
    System.out.println(room.quarrels()); // 0
    System.out.println(room.can(1, ParleyRoom.ANSWER, 0, ParleyRoom.YES, 1, 0)); // false

    room.give(5, 2);
    int offer = room.say(2, ParleyRoom.OFFER, 1 << 5, 0, 1 << 3, 4); // good 5, for nothing
    room.tick(1);
    room.say(3, ParleyRoom.ACCEPT, offer, 0, 1 << 2, ParleyRoom.NONE);
    room.tick(1);
    System.out.println(room.owner(5)); // 3
    System.out.println(room.deals()); // 1
  }
}
