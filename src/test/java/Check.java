import java.util.Objects;

/** Counts what is as due and prints what is not. */
final class Check {
  private static int passed = 0;
  private static int failed = 0;

  private Check() {}

  static void same(String what, Object got, Object due) {
    if (Objects.equals(got, due)) {
      passed++;
    } else {
      failed++;
      System.out.println(what + ": answered " + got + ", due is " + due);
    }
  }

  /** How many checks there were, as due or not. */
  static int count() {
    return passed + failed;
  }

  /**
   * The call must throw just this exception, from the class itself and not from the library, and
   * leave what Snapshot tells as it was. Refusals looks at all the rest.
   */
  static void refuses(ParleyRoom room, String what, Class<?> due, Runnable call) {
    String before = Snapshot.of(room);
    throwsIt(what, due, call);
    same(what + " changes nothing", Snapshot.of(room), before);
  }

  static void throwsIt(String what, Class<?> due, Runnable call) {
    Object got = "nothing";
    String from = "nowhere";
    try {
      call.run();
    } catch (RuntimeException e) {
      got = e.getClass();
      from = e.getStackTrace()[0].getClassName();
    }
    same(what + " throws by itself", from, "ParleyRoom");
    same(what + " throws", got, due);
  }

  static void noSuch(ParleyRoom room, String what, Runnable call) {
    refuses(room, what, IndexOutOfBoundsException.class, call);
  }

  static void outOfRange(ParleyRoom room, String what, Runnable call) {
    refuses(room, what, IllegalArgumentException.class, call);
  }

  static void notNow(ParleyRoom room, String what, Runnable call) {
    refuses(room, what, IllegalStateException.class, call);
  }

  static void close() {
    System.out.println(passed + " checks as due, " + failed + " not");
    if (failed > 0) {
      System.exit(1);
    }
  }
}
