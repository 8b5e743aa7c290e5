/**
 * Each argument at its bounds, and below and above them, all arguments of a call in all ways together: the exception that
 * is named first is thrown, it changes nothing, and within the bounds there is neither of these two exceptions.
 */
public final class RangesTest {
  interface Call {
    Object on(Buildkeeper x, int[] a);
  }

  private static final String INDEX = "IndexOutOfBoundsException";
  private static final String ARGUMENT = "IllegalArgumentException";
  private static final int NO_BOUND = Integer.MAX_VALUE;
  /** So few that an object is asked less than 512 times in all. */
  private static final int MOST_CALLS = 100;

  /** An argument: its exception, the least and the greatest value. */
  private record Range(String exception, int least, int most) {
    int[] tries() {
      if (most == NO_BOUND) {
        return new int[] {Integer.MIN_VALUE, least - 1, least, least + 1, most};
      }
      return new int[] {Integer.MIN_VALUE, least - 1, least, most, most + 1, Integer.MAX_VALUE};
    }

    boolean has(int value) {
      return value >= least && value <= most;
    }
  }

  private static final Range NAME = new Range(INDEX, 0, 99);
  private static final Range ENDING = new Range(INDEX, 0, 9);
  private static final Range ANY = new Range("none", Integer.MIN_VALUE + 2, NO_BOUND);

  private static Range of(int least, int most) {
    return new Range(ARGUMENT, least, most);
  }

  public static void main(String[] args) {
    changes();
    questionsOfNames();
    ways();
    builds();
    endingsOfOnePattern();
    Check.end();
  }

  private static void changes() {
    ranges(2, (x, a) -> x.put(a[0], a[1]), NAME, of(0, 99));
    ranges(3, (x, a) -> x.wipe(a[0]), NAME);
    ranges(4, (x, a) -> x.drop(a[0]), NAME);
    ranges(5, (x, a) -> x.step(a[0], a[1], a[2], a[3]), NAME, of(0, 6), of(0, 99), of(1, 9));
    ranges(6, (x, a) -> x.second(a[0], a[1]), NAME, NAME);
    ranges(7, (x, a) -> x.need(a[0], a[1]), NAME, NAME);
    ranges(8, (x, a) -> x.unneed(a[0], 0), NAME);
    ranges(9, (x, a) -> x.strike(a[0]), NAME);
    ranges(10, (x, a) -> x.pattern(a[0], 3, a[1], a[2], a[3]), ENDING, of(0, 3), of(0, 99), of(1, 9));
    ranges(10, (x, a) -> x.pattern(5, a[0], a[1], a[2], a[3]), ENDING, of(0, 3), of(0, 99), of(1, 9));
    ranges(11, (x, a) -> x.unpattern(a[0]), ENDING);
    ranges(12, (x, a) -> x.fault(a[0], a[1]), NAME, of(0, 9));
    ranges(13, (x, a) -> x.mode(a[0] % 2 == 0, a[1]), ANY, of(0, 3));
    ranges(14, (x, a) -> x.alter(a[0], a[1]), NAME, of(0, 99));
    ranges(15, (x, a) -> x.remove(a[0]), NAME);
    ranges(16, (x, a) -> x.cache(a[0]), of(0, 12));
    ranges(17, (x, a) -> x.poison(a[0], a[1]), ANY, of(0, 99));
  }

  private static void questionsOfNames() {
    ranges(19, (x, a) -> x.ofName(a[0], a[1]), NAME, of(0, 5));
    ranges(20, (x, a) -> x.number(1, a[0]), new Range(INDEX, 0, 7));
    ranges(21, (x, a) -> x.sum(a[0]), NAME);
    ranges(22, (x, a) -> x.text(a[0]), NAME);
    ranges(23, (x, a) -> x.ofStep(a[0], 0), NAME);
    ranges(23, (x, a) -> x.ofStep(12, a[0]), of(0, 9));
    ranges(24, (x, a) -> x.needOf(a[0], 0), NAME);
    ranges(24, (x, a) -> x.needOf(12, a[0]), of(0, 5));
    ranges(25, (x, a) -> x.readOf(a[0], 0), NAME);
    ranges(25, (x, a) -> x.readOf(12, a[0]), of(0, NO_BOUND));
    ranges(26, (x, a) -> x.readSum(a[0], 0), NAME);
    ranges(26, (x, a) -> x.readSum(12, a[0]), of(0, NO_BOUND));
    ranges(27, (x, a) -> x.users(a[0], a[1]), NAME, of(0, NO_BOUND));
    ranges(28, (x, a) -> x.between(a[0], a[1]), NAME, NAME);
    ranges(29, (x, a) -> x.near(a[0], a[1]), NAME, of(0, 3));
  }

  private static void ways() {
    ranges(30, (x, a) -> x.reaches(a[0], a[1]), NAME, NAME);
    ranges(31, (x, a) -> x.ways(a[0], a[1]), NAME, NAME);
    ranges(32, (x, a) -> x.way(a[0], a[1], a[2]), NAME, NAME, of(0, 99));
    ranges(33, (x, a) -> x.ring(a[0]), NAME);
    ranges(34, (x, a) -> x.longest(a[0]), NAME);
    ranges(35, (x, a) -> x.plain(a[0], a[1]), NAME, of(0, NO_BOUND));
  }

  private static void builds() {
    ranges(18, (x, a) -> x.build(a[0], a[1], a[2]), NAME, of(1, 6), of(0, 9));
    ranges(18, (x, a) -> x.build(14, a[0], a[1]), of(1, 6), of(0, 9));
    ranges(36, (x, a) -> x.ofBuild(a[0], a[1]), NAME, of(0, 6));
    ranges(37, (x, a) -> x.last(a[0]), of(0, 11));
    ranges(39, (x, a) -> x.history(a[0], a[1]), of(0, 7), of(0, 11));
    ranges(40, (x, a) -> x.would(a[0], a[1], a[2]), NAME, of(1, 6), of(2, 11));
    ranges(40, (x, a) -> x.would(14, a[0], a[1]), of(1, 6), of(2, 11));
    ranges(41, (x, a) -> x.wouldDo(a[0], a[1]), NAME, of(0, NO_BOUND));
    ranges(41, (x, a) -> x.wouldDo(14, a[0]), of(0, NO_BOUND));
    ranges(42, (x, a) -> x.scratch(a[0]), NAME);
    ranges(43, (x, a) -> x.cached(a[0]), of(0, 4));
    ranges(44, (x, a) -> x.cachedAt(a[0]), of(0, NO_BOUND));
    ranges(48, (x, a) -> x.house(a[0]), of(0, 8));
  }

  /** "IndexOutOfBoundsException if to or from is not 0 to 9", ahead of "if they are the same". */
  private static void endingsOfOnePattern() {
    Check.promise(10);
    int[] tries = ENDING.tries();
    for (int to : tries) {
      for (int from : tries) {
        Buildkeeper x = new Buildkeeper();
        String due = !ENDING.has(to) || !ENDING.has(from) ? INDEX : to == from ? ARGUMENT : "answered 1";
        Check.is(Check.outcome(() -> x.pattern(to, from, 0, 0, 1)), due);
        Check.is(x.house(2), due.equals("answered 1") ? 1 : 0);
      }
    }
  }

  // ---- the calls with all values

  private static Buildkeeper real;
  /** Is called only where the real one must not throw the exceptions of the ranges. */
  private static Buildkeeper twin;
  private static int calls;

  private static void ranges(int promise, Call call, Range... ranges) {
    Check.promise(promise);
    begin();
    int ways = 1;
    for (Range range : ranges) {
      ways *= range.tries().length;
    }
    for (int way = 0; way < ways; way++) {
      int[] a = new int[ranges.length];
      int rest = way;
      for (int i = 0; i < a.length; i++) {
        int[] tries = ranges[i].tries();
        a[i] = tries[rest % tries.length];
        rest /= tries.length;
      }
      callOnce(call, ranges, a);
      if (calls == MOST_CALLS) {
        compareTwins();
        begin();
      }
    }
    compareTwins();
  }

  private static void begin() {
    real = Scenes.full();
    twin = Scenes.full();
    calls = 0;
  }

  private static void compareTwins() {
    Check.is(Sight.of(real), Sight.of(twin));
  }

  private static void callOnce(Call call, Range[] ranges, int[] a) {
    String due = firstException(ranges, a);
    String got = Check.outcome(() -> call.on(real, a));
    calls++;
    if (due.isEmpty()) {
      Check.is(got, Check.outcome(() -> call.on(twin, a)));
      Check.is(got.equals("IllegalStateException") || got.startsWith("answered"), true);
    } else {
      Check.is(got, due);
    }
  }

  /** All that is about names is named ahead of all that is about other arguments. */
  private static String firstException(Range[] ranges, int[] a) {
    String due = "";
    for (int i = 0; i < a.length; i++) {
      boolean isOut = !ranges[i].has(a[i]) && !ranges[i].exception().equals("none");
      if (isOut && !due.equals(INDEX)) {
        due = ranges[i].exception();
      }
    }
    return due;
  }
}
