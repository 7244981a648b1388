import java.util.HashMap;
import java.util.Map;
import java.util.function.Consumer;
import java.util.function.Supplier;

/** Calls that must be refused, and then must have changed nothing at all. */
final class Refusals {
  private static final Class<?> NO_SUCH = IndexOutOfBoundsException.class;
  private static final Class<?> OUT_OF_RANGE = IllegalArgumentException.class;
  private static final Class<?> NOT_NOW = IllegalStateException.class;
  private static final Map<Supplier<ParleyRoom>, String> WHOLES = new HashMap<>();

  private Refusals() {}

  static void noSuch(Supplier<ParleyRoom> scene, String what, Consumer<ParleyRoom> call) {
    refuses(scene, what, NO_SUCH, call);
  }

  static void outOfRange(Supplier<ParleyRoom> scene, String what, Consumer<ParleyRoom> call) {
    refuses(scene, what, OUT_OF_RANGE, call);
  }

  static void noSuch(Supplier<ParleyRoom> scene, Saying saying) {
    both(scene, NO_SUCH, saying);
  }

  static void outOfRange(Supplier<ParleyRoom> scene, Saying saying) {
    both(scene, OUT_OF_RANGE, saying);
  }

  /** can() must answer false and say() throw. */
  static void notNow(Supplier<ParleyRoom> scene, String what, Saying saying) {
    String name = what + ", " + saying;
    Check.same("can: " + name, saying.can(scene.get()), false);
    unchanged(scene, "can: " + name, saying::can);
    refuses(scene, "say: " + name, NOT_NOW, saying::say);
  }

  /** can() must answer true and change nothing, and say() say the next turn. */
  static void fine(Supplier<ParleyRoom> scene, String what, Saying saying) {
    String name = what + ", " + saying;
    Check.same("can: " + name, saying.can(scene.get()), true);
    unchanged(scene, "can: " + name, saying::can);
    ParleyRoom room = scene.get();
    int number = room.said();
    Check.same("say: " + name, saying.say(room), number);
    Check.same("it is SAID: " + name, room.turn(number, 6), ParleyRoom.SAID);
  }

  static void may(Supplier<ParleyRoom> scene, String what, boolean due, Saying saying) {
    if (due) {
      fine(scene, what, saying);
    } else {
      notNow(scene, what, saying);
    }
  }

  private static void both(Supplier<ParleyRoom> scene, Class<?> due, Saying saying) {
    refuses(scene, "can: " + saying, due, saying::can);
    refuses(scene, "say: " + saying, due, saying::say);
  }

  private static void refuses(
      Supplier<ParleyRoom> scene, String what, Class<?> due, Consumer<ParleyRoom> call) {
    Check.throwsIt(what, due, () -> call.accept(scene.get()));
    unchanged(scene, what, call);
  }

  private static void unchanged(
      Supplier<ParleyRoom> scene, String what, Consumer<ParleyRoom> call) {
    String before = WHOLES.computeIfAbsent(scene, Whole::of);
    String after = Whole.of(() -> behind(scene, call));
    Check.same(what + " changes nothing", firstDifference(before, after), "");
  }

  private static ParleyRoom behind(Supplier<ParleyRoom> scene, Consumer<ParleyRoom> call) {
    ParleyRoom room = scene.get();
    try {
      call.accept(room);
    } catch (RuntimeException e) {
      // whether it is the right one is looked at elsewhere
    }
    return room;
  }

  private static String firstDifference(String before, String after) {
    if (before.equals(after)) {
      return "";
    }
    String[] old = before.split("\n");
    String[] now = after.split("\n");
    for (int i = 0; i < old.length && i < now.length; i++) {
      if (!old[i].equals(now[i])) {
        return old[i] + " became " + now[i];
      }
    }
    return "more or less than before";
  }
}
