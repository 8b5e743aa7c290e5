import java.util.Objects;

/** Counts answers that are not due, and tells in which line of a test they were asked for. */
final class Check {
  interface Act {
    Object run();
  }

  private static int wrong = 0;
  private static int promise = 0;

  private Check() {
  }

  /** The promise that the next checks are about. */
  static void promise(int number) {
    promise = number;
  }

  static void is(long got, long due) {
    compare(got, due);
  }

  static void is(String got, String due) {
    compare(got, due);
  }

  static void is(boolean got, boolean due) {
    compare(got, due);
  }

  static void index(Act act) {
    compare(thrown(act), "IndexOutOfBoundsException");
  }

  static void argument(Act act) {
    compare(thrown(act), "IllegalArgumentException");
  }

  static void state(Act act) {
    compare(thrown(act), "IllegalStateException");
  }

  /** Ends the program; a test calls it last. */
  static void end() {
    System.out.println(wrong == 0 ? "all answers are as due" : wrong + " answers are wrong");
    System.exit(wrong == 0 ? 0 : 1);
  }

  private static String thrown(Act act) {
    try {
      return "answered " + act.run();
    } catch (RuntimeException e) {
      return e.getClass().getSimpleName();
    }
  }

  private static void compare(Object got, Object due) {
    if (!Objects.equals(got, due)) {
      wrong++;
      StackTraceElement[] lines = new Throwable().getStackTrace();
      System.out.println("promise " + promise + ", " + lines[2] + ", called by " + lines[3]
          + ": answered " + got + ", due is " + due);
    }
  }
}
