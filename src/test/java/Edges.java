import java.util.LinkedHashSet;
import java.util.List;
import java.util.Set;
import java.util.function.Consumer;
import java.util.function.ObjIntConsumer;
import java.util.function.Supplier;

/** The document's sentences that name an edge, each with a test of its own. */
final class Edges {
  private static final Set<String> HELD = new LinkedHashSet<>();
  private static final String NO_SPEAKER =
      "Throws `IndexOutOfBoundsException` if there is no such speaker";
  private static final String NO_SPEAKER_OR_ATOM = NO_SPEAKER + " or atom";

  private Edges() {}

  /** A sentence as the document has it behind a heading, and its test. */
  static void of(String heading, String sentence, Runnable test) {
    int before = Check.count();
    String thrown = "nothing";
    try {
      test.run();
    } catch (RuntimeException e) {
      thrown = e.toString();
    }
    String what = heading + ": " + sentence;
    Check.same(what + " throws", thrown, "nothing");
    Check.same(what + " is tested", Check.count() > before + 1, true);
    holds(heading, sentence);
  }

  /** The sentence has its test with another one. */
  static void holds(String heading, String sentence) {
    HELD.add(key(heading, sentence));
  }

  static String key(String heading, String sentence) {
    return heading + ": " + sentence;
  }

  static Set<String> held() {
    return HELD;
  }

  /** The numbers right beside a range, and the farthest. */
  static int[] beside(int least, int most) {
    return new int[] {least - 1, most + 1, Integer.MIN_VALUE, Integer.MAX_VALUE};
  }

  /** No number of a range is refused, in a new room and in a busy one. */
  static void takes(int least, int most, ObjIntConsumer<ParleyRoom> call) {
    for (int i = least; i <= most; i++) {
      int number = i;
      takes("with " + number, room -> call.accept(room, number));
    }
  }

  static void takes(String what, Consumer<ParleyRoom> call) {
    for (Supplier<ParleyRoom> scene : scenes()) {
      Object thrown = "nothing";
      try {
        call.accept(scene.get());
      } catch (RuntimeException e) {
        thrown = e;
      }
      Check.same(what + " throws", thrown, "nothing");
    }
  }

  /** IndexOutOfBoundsException for the numbers beside a range. */
  static void noSuch(int least, int most, ObjIntConsumer<ParleyRoom> call) {
    for (int number : beside(least, most)) {
      for (Supplier<ParleyRoom> scene : scenes()) {
        Refusals.noSuch(scene, "with " + number, room -> call.accept(room, number));
      }
    }
  }

  /** IllegalArgumentException for the numbers beside a range. */
  static void outOfRange(int least, int most, ObjIntConsumer<ParleyRoom> call) {
    for (int number : beside(least, most)) {
      for (Supplier<ParleyRoom> scene : scenes()) {
        Refusals.outOfRange(scene, "with " + number, room -> call.accept(room, number));
      }
    }
  }

  /** A method whose first argument is a speaker. */
  static void speaker(String promise, ObjIntConsumer<ParleyRoom> call) {
    of(promise, "- `speaker`: 0 to 3", () -> takes(0, 3, call));
    of(promise, NO_SPEAKER, () -> noSuch(0, 3, call));
  }

  /** A method whose first arguments are a speaker and an atom. */
  static void speakerAndAtom(
      String promise, ObjIntConsumer<ParleyRoom> ofSpeaker, ObjIntConsumer<ParleyRoom> ofAtom) {
    of(promise, "- `speaker`: 0 to 3", () -> takes(0, 3, ofSpeaker));
    of(promise, "- `atom`: 0 to 9", () -> takes(0, 9, ofAtom));
    of(promise, NO_SPEAKER_OR_ATOM, () -> {
      noSuch(0, 3, ofSpeaker);
      noSuch(0, 9, ofAtom);
    });
  }

  private static List<Supplier<ParleyRoom>> scenes() {
    return List.of(Scenes.NEW, Scenes.BUSY);
  }
}
