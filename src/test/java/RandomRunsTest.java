import java.util.ArrayList;
import java.util.List;
import java.util.Random;

/** Long runs of calls that are drawn from fixed seeds: the class and the model must answer alike. */
public final class RandomRunsTest {
  interface Call<T> { Object on(T it); }

  private static int wrong = 0;
  private static Buildkeeper real;
  private static Model model;
  private static final List<String> log = new ArrayList<>();

  private static <T> Object answer(Call<T> call, T it) {
    try {
      return call.on(it);
    } catch (IndexOutOfBoundsException | IllegalArgumentException | IllegalStateException e) {
      return "throws " + (e instanceof IndexOutOfBoundsException ? "Index" : e.getClass().getSimpleName());
    }
  }

  private static Object both(String told, Call<Buildkeeper> a, Call<Model> b) {
    Object got = answer(a, real);
    Object due = answer(b, model);
    log.add(told + " = " + got);
    if (!got.equals(due)) {
      wrong++;
      if (wrong < 5) {
        System.out.println(String.join("\n", log));
        System.out.println(told + " answered " + got + ", due is " + due);
      }
    }
    return got;
  }

  private final Random random;
  private final int[] pool;
  private final int edge;

  private RandomRunsTest(long seed) {
    random = new Random(seed);
    // some runs have few names that meet often, some have so many that all rows get full
    pool = new int[isWide(seed) ? 45 : 6 + random.nextInt(14)];
    int stems = isWide(seed) ? 10 : 1 + random.nextInt(3);
    for (int i = 0; i < pool.length; i++) pool[i] = random.nextInt(stems) * 10 + random.nextInt(10);
    edge = random.nextInt(3) == 0 ? 30 : 400;
  }

  private static boolean isWide(long seed) {
    return seed % 7 == 0;
  }

  /** One of the names of this run; now and then any one, or none at all. */
  private int name() {
    int r = random.nextInt(edge);
    if (r == 0) return -1 - random.nextInt(2);
    if (r == 1) return 100 + random.nextInt(2);
    if (r < 4) return random.nextInt(100);
    return pool[random.nextInt(pool.length)];
  }

  /** A number from..to, and rarely one beyond. */
  private int of(int from, int to) {
    int r = random.nextInt(edge);
    if (r == 0) return from - 1;
    if (r == 1) return to + 1;
    return from + random.nextInt(to - from + 1);
  }

  private int value() {
    return random.nextInt(3) > 0 ? name() : random.nextInt(2) == 0 ? random.nextInt(4) : of(0, 99);
  }

  private int head() {
    for (int i = 0; i < 4; i++) {
      int n = name();
      if (model.own.containsKey(n)) return n;
    }
    return name();
  }

  private int product() {
    for (int i = 0; i < 4; i++) {
      int n = name();
      if (n >= 0 && n < 100 && model.stepOf(n) != null) return n;
    }
    return name();
  }

  private void change() {
    switch (random.nextInt(40)) {
      case 0: case 1: case 2: case 3: { int n = name(), v = value(); both("put(" + n + ", " + v + ")", x -> x.put(n, v), m -> m.put(n, v)); break; }
      case 4: { int n = name(); both("wipe(" + n + ")", x -> x.wipe(n), m -> m.wipe(n)); break; }
      case 5: { int n = name(); if (random.nextInt(2) == 0) both("drop(" + n + ")", x -> x.drop(n), m -> m.drop(n)); break; }
      case 6: case 7: case 8: {
        int n = name(), k = of(0, 6), l = of(1, 9), r = random.nextInt(4);
        int p = r == 0 ? of(0, 99) : random.nextInt(10);
        both("step(" + n + ", " + k + ", " + p + ", " + l + ")", x -> x.step(n, k, p, l), m -> m.step(n, k, p, l));
        break;
      }
      case 9: case 10: { int h = head(), n = random.nextInt(4) == 0 ? h : name(); both("second(" + h + ", " + n + ")", x -> x.second(h, n), m -> m.second(h, n)); break; }
      case 11: case 12: case 13: case 14: case 15: case 16: { int h = head(), n = name(); both("need(" + h + ", " + n + ")", x -> x.need(h, n), m -> m.need(h, n)); break; }
      case 17: { int h = head(), p = random.nextInt(3) - (random.nextInt(20) == 0 ? 1 : 0); both("unneed(" + h + ", " + p + ")", x -> x.unneed(h, p), m -> m.unneed(h, p)); break; }
      case 18: { int h = head(); if (random.nextInt(3) == 0) both("strike(" + h + ")", x -> x.strike(h), m -> m.strike(h)); break; }
      case 19: {
        int t = of(0, 9), f = of(0, 9), k = of(0, 3), p = random.nextInt(6), l = of(1, 9);
        both("pattern(" + t + ", " + f + ", " + k + ", " + p + ", " + l + ")", x -> x.pattern(t, f, k, p, l), m -> m.pattern(t, f, k, p, l));
        break;
      }
      case 20: { int t = of(0, 9); if (random.nextInt(2) == 0) both("unpattern(" + t + ")", x -> x.unpattern(t), m -> m.unpattern(t)); break; }
      case 21: case 22: { int h = product(), t = random.nextInt(4) == 0 ? of(0, 9) : random.nextInt(3); both("fault(" + h + ", " + t + ")", x -> x.fault(h, t), m -> m.fault(h, t)); break; }
      case 23: { boolean k = random.nextInt(3) > 0; int r = of(0, 3); both("mode(" + k + ", " + r + ")", x -> x.mode(k, r), m -> m.mode(k, r)); break; }
      case 24: case 25: { int n = product(), v = value(); both("alter(" + n + ", " + v + ")", x -> x.alter(n, v), m -> m.alter(n, v)); break; }
      case 26: { int n = product(); both("remove(" + n + ")", x -> x.remove(n), m -> m.remove(n)); break; }
      case 27: { int b = random.nextInt(4) == 0 ? of(0, 12) : random.nextInt(5); both("cache(" + b + ")", x -> x.cache(b), m -> m.cache(b)); break; }
      case 28: { int p = random.nextInt(6) - (random.nextInt(20) == 0 ? 1 : 0), v = value(); both("poison(" + p + ", " + v + ")", x -> x.poison(p, v), m -> m.poison(p, v)); break; }
      default: { int g = product(), h = of(1, 6), s = random.nextInt(2) == 0 ? 0 : of(0, 9); both("build(" + g + ", " + h + ", " + s + ")", x -> x.build(g, h, s), m -> m.build(g, h, s)); break; }
    }
  }

  private void ask() {
    int n = name(), t = name(), h = product(), nth = random.nextInt(6) - (random.nextInt(20) == 0 ? 1 : 0);
    switch (random.nextInt(30)) {
      case 0: case 1: { int w = of(0, 5); both("ofName(" + n + ", " + w + ")", x -> x.ofName(n, w), m -> m.ofName(n, w)); break; }
      case 2: both("number(" + n + ", " + nth + ")", x -> x.number(n, nth), m -> m.number(n, nth)); break;
      case 3: both("sum(" + n + ")", x -> x.sum(n), m -> m.sum(n)); break;
      case 4: both("text(" + h + ")", x -> x.text(h), m -> m.text(h)); break;
      case 5: { int w = of(0, 9); both("ofStep(" + h + ", " + w + ")", x -> x.ofStep(h, w), m -> m.ofStep(h, w)); break; }
      case 6: both("needOf(" + h + ", " + nth + ")", x -> x.needOf(h, nth), m -> m.needOf(h, nth)); break;
      case 7: both("readOf(" + h + ", " + nth + ")", x -> x.readOf(h, nth), m -> m.readOf(h, nth)); break;
      case 8: both("readSum(" + h + ", " + nth + ")", x -> x.readSum(h, nth), m -> m.readSum(h, nth)); break;
      case 9: both("users(" + n + ", " + nth + ")", x -> x.users(n, nth), m -> m.users(n, nth)); break;
      case 10: both("between(" + n + ", " + t + ")", x -> x.between(n, t), m -> m.between(n, t)); break;
      case 11: { int w = of(0, 3); both("near(" + n + ", " + w + ")", x -> x.near(n, w), m -> m.near(n, w)); break; }
      case 12: both("reaches(" + h + ", " + t + ")", x -> x.reaches(h, t), m -> m.reaches(h, t)); break;
      case 13: both("ways(" + h + ", " + t + ")", x -> x.ways(h, t), m -> m.ways(h, t)); break;
      case 14: both("way(" + h + ", " + t + ", " + nth + ")", x -> x.way(h, t, nth), m -> m.way(h, t, nth)); break;
      case 15: both("ring(" + h + ")", x -> x.ring(h), m -> m.ring(h)); break;
      case 16: both("longest(" + n + ")", x -> x.longest(n), m -> m.longest(n)); break;
      case 17: both("plain(" + n + ", " + nth + ")", x -> x.plain(n, nth), m -> m.plain(n, nth)); break;
      case 18: { int w = of(0, 6); both("ofBuild(" + h + ", " + w + ")", x -> x.ofBuild(h, w), m -> m.ofBuild(h, w)); break; }
      case 19: { int w = of(0, 11); both("last(" + w + ")", x -> x.last(w), m -> m.last(w)); break; }
      case 20: both("trace()", x -> x.trace(), m -> m.trace()); break;
      case 21: { int w = of(0, 11), k = of(0, 7); both("history(" + k + ", " + w + ")", x -> x.history(k, w), m -> m.history(k, w)); break; }
      case 22: case 23: { int w = of(2, 11), k = of(1, 6); both("would(" + h + ", " + k + ", " + w + ")", x -> x.would(h, k, w), m -> m.would(h, k, w)); break; }
      case 24: both("wouldDo(" + h + ", " + nth + ")", x -> x.wouldDo(h, nth), m -> m.wouldDo(h, nth)); break;
      case 25: both("scratch(" + h + ")", x -> x.scratch(h), m -> m.scratch(h)); break;
      case 26: { int w = of(0, 4); both("cached(" + w + ")", x -> x.cached(w), m -> m.cached(w)); break; }
      case 27: both("cachedAt(" + nth + ")", x -> x.cachedAt(nth), m -> m.cachedAt(nth)); break;
      case 28: { int w = of(0, 8); both("house(" + w + ")", x -> x.house(w), m -> m.house(w)); break; }
      default: {
        int w = random.nextInt(3);
        if (w == 0) both("blank()", x -> x.blank(), m -> m.blank());
        else if (w == 1) both("nobody()", x -> x.nobody(), m -> m.nobody());
        else both("knock()", x -> x.knock(), m -> m.knock());
      }
    }
  }

  /** Sources, and steps that need them and one another, so that much can be built from the start. */
  private void setUp() {
    for (int n : pool) {
      int head = n;
      if (random.nextInt(3) == 0) {
        for (int i = random.nextInt(3); i >= 0; i--) {
          int v = random.nextInt(3) > 0 ? pool[random.nextInt(pool.length)] : random.nextInt(100);
          both("put(" + head + ", " + v + ")", x -> x.put(head, v), m -> m.put(head, v));
        }
        continue;
      }
      int kind = random.nextInt(3) == 0 ? 4 : random.nextInt(7);
      int p = random.nextInt(10);
      int l = 1 + random.nextInt(9);
      both("step(" + head + ", " + kind + ", " + p + ", " + l + ")", x -> x.step(head, kind, p, l), m -> m.step(head, kind, p, l));
      for (int i = random.nextInt(4); i > 0; i--) {
        int need = pool[random.nextInt(pool.length)];
        both("need(" + head + ", " + need + ")", x -> x.need(head, need), m -> m.need(head, need));
      }
    }
  }

  private void run(int calls) {
    int digests = 12;
    for (int i = 0; i < calls; i++) {
      if (i % 32 == 31 && digests > 0) {
        digests--;
        both("isSound()", x -> x.isSound(), m -> m.isSound());
        both("digest()", x -> x.digest(), m -> m.digest());
      } else if (random.nextInt(3) > 0) {
        change();
      } else {
        ask();
      }
    }
    both("trace()", x -> x.trace(), m -> m.trace());
    both("digest()", x -> x.digest(), m -> m.digest());
  }

  public static void main(String[] args) {
    int from = args.length > 0 ? Integer.parseInt(args[0]) : 0;
    int to = args.length > 1 ? Integer.parseInt(args[1]) : 250;
    for (int seed = from; seed < to && wrong == 0; seed++) {
      real = new Buildkeeper();
      model = new Model();
      log.clear();
      log.add("seed " + seed);
      RandomRunsTest test = new RandomRunsTest(seed);
      if (seed % 2 == 0 || isWide(seed)) test.setUp();
      test.run(seed % 5 == 0 ? 60 : isWide(seed) ? 300 : 400);
    }
    System.out.println(wrong == 0 ? "all answers are alike" : "answers differ");
    System.exit(wrong == 0 ? 0 : 1);
  }
}
