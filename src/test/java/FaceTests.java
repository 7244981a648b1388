import java.lang.reflect.Constructor;
import java.lang.reflect.Field;
import java.lang.reflect.Method;
import java.lang.reflect.Modifier;
import java.util.Arrays;
import java.util.Map;
import java.util.TreeMap;
import java.util.TreeSet;

/** The face: the document's constants, constructor and methods, and no other member to be seen. */
final class FaceTests {
  private static final String[] METHODS = {
    "int power(int, int) IA",
    "int knows(int, int, int, boolean) IA",
    "int believe(int, int, int) IA",
    "int deafen(int, int) IA",
    "int give(int, int) I",
    "boolean strict(boolean) ",
    "boolean can(int, int, int, int, int, int) IA",
    "int say(int, int, int, int, int, int) IAS",
    "int tick(int) A",
    "int clock() ",
    "int next() ",
    "int said() ",
    "int turn(int, int) IA",
    "int heard(int, int) I",
    "int stand(int, int) I",
    "int standBy(int, int) I",
    "int standAnew(int, int) I",
    "int hint(int, int) I",
    "boolean isSupported(int, int) I",
    "int lies(int) I",
    "int ground(int, int) IA",
    "int questions() ",
    "int question(int, int) IA",
    "int quarrels() ",
    "int owner(int) I",
    "int deals() ",
    "int minutes() ",
  };

  private FaceTests() {}

  static void run() {
    constants();
    methods();
    membersInside();
  }

  private static void constants() {
    Map<String, Integer> due = new TreeMap<>();
    due.put("NONE", -1);
    due.put("YES", 1);
    due.put("NO", 2);
    String[] acts = {
      "ASSERT", "ASK", "ANSWER", "DROP", "ACK", "CLARIFY", "REPEAT", "CONCEDE", "DENY",
      "BECAUSE", "RETRACT", "HINT", "CANCEL", "OFFER", "ACCEPT", "REJECT"
    };
    String[] states = {"SAID", "DONE", "LOST", "CHALLENGED", "VOID"};
    String[] hearings = {"MISSED", "COMING", "HEARD", "TAKEN"};
    for (int i = 0; i < acts.length; i++) {
      due.put(acts[i], i);
    }
    for (int i = 0; i < states.length; i++) {
      due.put(states[i], i);
    }
    for (int i = 0; i < hearings.length; i++) {
      due.put(hearings[i], i + 1);
    }
    Map<String, Integer> got = new TreeMap<>();
    for (Field field : ParleyRoom.class.getDeclaredFields()) {
      if (!Modifier.isPrivate(field.getModifiers()) && !field.isSynthetic()) {
        Check.same(field.getName() + " is public static final int",
            Modifier.toString(field.getModifiers()) + " " + field.getType(),
            "public static final int");
        got.put(field.getName(), valueOf(field));
      }
    }
    Check.same("constants", got, due);
  }

  private static Integer valueOf(Field field) {
    try {
      return field.getInt(null);
    } catch (IllegalAccessException e) {
      return null;
    }
  }

  private static void methods() {
    TreeSet<String> got = new TreeSet<>();
    for (Method method : ParleyRoom.class.getDeclaredMethods()) {
      if (!Modifier.isPrivate(method.getModifiers()) && !method.isSynthetic()) {
        Check.same(method.getName(), Modifier.toString(method.getModifiers()), "public");
        got.add(textOf(method));
      }
    }
    Check.same("methods", got, new TreeSet<>(Arrays.asList(METHODS)));
  }

  private static String textOf(Method method) {
    StringBuilder text = new StringBuilder();
    text.append(method.getReturnType()).append(' ').append(method.getName());
    String parameters = Arrays.toString(method.getParameterTypes());
    text.append('(').append(parameters, 1, parameters.length() - 1).append(") ");
    for (Class<?> thrown : method.getExceptionTypes()) {
      text.append(letterOf(thrown));
    }
    return text.toString();
  }

  private static String letterOf(Class<?> thrown) {
    if (thrown == IndexOutOfBoundsException.class) {
      return "I";
    }
    if (thrown == IllegalArgumentException.class) {
      return "A";
    }
    return thrown == IllegalStateException.class ? "S" : thrown.getName();
  }

  private static void membersInside() {
    Check.same("class", Modifier.toString(ParleyRoom.class.getModifiers()), "public final");
    Constructor<?>[] constructors = ParleyRoom.class.getDeclaredConstructors();
    Check.same("constructors", constructors.length, 1);
    Check.same("constructor", constructors[0].toString(), "public ParleyRoom()");
    TreeSet<String> faceNames = new TreeSet<>();
    for (Method method : ParleyRoom.class.getDeclaredMethods()) {
      if (Modifier.isPublic(method.getModifiers())) {
        faceNames.add(method.getName());
      }
    }
    for (Method method : ParleyRoom.class.getDeclaredMethods()) {
      if (Modifier.isPrivate(method.getModifiers())) {
        Check.same("a private method named " + method.getName(),
            faceNames.contains(method.getName()), false);
      }
    }
    for (Class<?> inside : ParleyRoom.class.getDeclaredClasses()) {
      Check.same(inside + " is static", Modifier.isStatic(inside.getModifiers()), true);
      Check.same(inside + " is public", Modifier.isPublic(inside.getModifiers()), false);
    }
  }
}
