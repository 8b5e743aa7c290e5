import java.util.Objects;

/** Counts answers that are not due, and tells in which line of a test they were asked for. */
final class Check {
  interface Act {
    Object run();
  }

  private static int wrong = 0;
  private static int promise = 0;

  private Check() {
  }

  /** The promise that the next checks are about. */
  static void promise(int number) {
    promise = number;
  }

  static void is(long got, long due) {
    compare(got, due);
  }

  static void is(String got, String due) {
    compare(got, due);
  }

  static void is(boolean got, boolean due) {
    compare(got, due);
  }

  static void index(Act act) {
    compare(outcome(act), "IndexOutOfBoundsException");
  }

  static void argument(Act act) {
    compare(outcome(act), "IllegalArgumentException");
  }

  static void state(Act act) {
    compare(outcome(act), "IllegalStateException");
  }

  /** What was answered, or the name of the exception that was thrown. */
  static String outcome(Act act) {
    try {
      return "answered " + act.run();
    } catch (RuntimeException e) {
      return e.getClass().getSimpleName();
    }
  }

  /** Ends the program; a test calls it last. */
  static void end() {
    System.out.println(wrong == 0 ? "all answers are as due" : wrong + " answers are wrong");
    System.exit(wrong == 0 ? 0 : 1);
  }

  private static void compare(Object got, Object due) {
    if (!Objects.equals(got, due)) {
      wrong++;
      System.out.println("promise " + promise + ", " + lines() + ": answered " + got + ", due is " + due);
    }
  }

  /** The lines of the test that stand open, the innermost one first. */
  private static String lines() {
    StringBuilder out = new StringBuilder();
    StackTraceElement[] all = new Throwable().getStackTrace();
    for (int i = 3; i < all.length && i < 7; i++) {
      out.append(i > 3 ? " < " : "").append(all[i].getFileName()).append(':').append(all[i].getLineNumber());
    }
    return out.toString();
  }
}
