import java.math.BigInteger;

/** Promises 36 to 50 and what is told of the whole object, sentence by sentence, at each bound. */
public final class EdgesOfAllTest {
  private static final int NONE = -1;
  private static final int REFUSED = -9;

  public static void main(String[] args) {
    notBuilt();
    statesAndReasons();
    countsOfTheLastBuild();
    traces();
    knocks();
    refusals();
    houses();
    theMostBuilds();
    digestsWrapAround();
    digestsTellApart();
    oneObjectAndAnother();
    Check.end();
  }

  /** "0 not WANTED (or there was no BUILD) ... (0 without ...), (NONE without)". */
  private static void notBuilt() {
    Check.promise(36);
    int[] due = {0, 0, NONE, NONE, NONE, 0, NONE};
    Buildkeeper x = Scenes.small();
    for (int head : new int[] {0, 10, 19, 1, 99}) {
      for (int what = 0; what <= 6; what++) {
        Check.is(x.ofBuild(head, what), due[what]);
      }
    }
    x.build(11, 1, 0);
    x.build(10, 1, 0);
    for (int head : new int[] {0, 11, 19, 1, 99}) {
      for (int what = 0; what <= 6; what++) {
        Check.is(x.ofBuild(head, what), due[what]);
      }
    }
    Check.argument(() -> x.ofBuild(10, 7));
    Check.argument(() -> x.ofBuild(10, -1));
    Check.index(() -> x.ofBuild(100, 7));
  }

  /** One BUILD with each of the states 1 to 6 and 8; 7 is told of in the tests of builds. */
  private static void statesAndReasons() {
    Check.promise(36);
    Buildkeeper x = new Buildkeeper();
    x.put(1, 7);
    for (int head = 10; head <= 15; head++) {
      x.step(head, 0, head, 2);
      x.need(head, 1);
    }
    for (int head = 10; head <= 12; head++) {
      x.build(head, 1, 0);
    }
    // 10 stays clean; 11 is fetched, as 20 puts in what it needs; 12 is the same by another rule; 13 is done; 14 and 15 fail
    x.cache(12);
    x.step(20, 0, 20, 2);
    x.need(20, 1);
    x.build(20, 1, 0);
    x.step(11, 0, 20, 2);
    x.step(12, 0, 99, 2);
    x.need(14, 98);
    x.fault(15, 1);
    x.step(16, 6, 0, 1);
    x.step(17, 0, 0, 1);
    x.need(17, 14);
    x.step(30, 6, 0, 1);
    for (int need : new int[] {16, 13, 15, 12, 11, 10}) {
      x.need(30, need);
    }
    x.step(31, 6, 0, 1);
    x.need(31, 30);
    x.need(31, 17);
    Check.is(x.build(31, 1, 0), 6);
    int[][] due = {
      {10, 1, 0, NONE, NONE, 0, 0, NONE},
      {11, 2, 2, NONE, NONE, 0, 0, NONE},
      {12, 4, 2, NONE, 0, 2, 1, 0},
      {13, 3, 1, NONE, 2, 4, 1, 0},
      {14, 5, 9, 98, NONE, 0, 0, NONE},
      {15, 5, 7, NONE, 4, 6, 1, 0},
      {16, 8, 0, NONE, NONE, 0, 0, NONE},
      {17, 6, 11, 14, NONE, 0, 0, NONE},
      {30, 6, 11, 15, NONE, 6, 0, NONE},
      {31, 6, 11, 30, NONE, 6, 0, NONE},
    };
    for (int[] row : due) {
      for (int what = 0; what <= 6; what++) {
        Check.is(x.ofBuild(row[0], what), row[1 + what]);
      }
    }
    int[] told = {31, 1, 6, 1, 1, 1, 1, 2, 3, 0, 1, 10};
    Check.promise(37);
    for (int what = 0; what <= 11; what++) {
      Check.is(x.last(what), told[what]);
    }
  }

  private static void countsOfTheLastBuild() {
    Check.promise(37);
    Buildkeeper x = new Buildkeeper();
    Check.argument(() -> x.last(12));
    Check.argument(() -> x.last(-1));
    x.step(0, 6, 0, 1);
    x.build(0, 6, 9);
    int[] due = {0, 6, 0, 0, 0, 0, 0, 0, 0, 0, 1, 1};
    for (int what = 0; what <= 11; what++) {
      Check.is(x.last(what), due[what]);
      Check.is(x.history(0, what), due[what]);
      Check.is(x.history(1, what), NONE);
    }
    // what is struck since then does not matter
    x.strike(0);
    Check.is(x.last(0), 0);
    Check.is(x.last(11), 1);
    Check.is(x.ofBuild(0, 0), 8);
  }

  private static void traces() {
    Check.promise(38);
    Buildkeeper x = new Buildkeeper();
    Check.is(x.trace(), "-");
    x.step(0, 0, 0, 9);
    x.build(0, 1, 0);
    Check.is(x.trace(), "0@0");
    x.build(0, 1, 0);
    Check.is(x.trace(), "-");
    x.step(99, 0, 0, 9);
    x.need(99, 0);
    x.step(0, 0, 1, 9);
    x.build(99, 1, 1);
    Check.is(x.trace(), "0@0 99@9");
    Check.is(x.last(2), 21);
    // that of would() is not told
    x.step(0, 0, 2, 9);
    x.would(0, 1, 2);
    Check.is(x.trace(), "0@0 99@9");
  }

  /** "Returns how often one knocked, with this": 512 times. */
  private static void knocks() {
    Check.promise(47);
    Buildkeeper x = new Buildkeeper();
    for (int i = 1; i <= 511; i++) {
      Check.is(x.knock(), i);
    }
    Check.is(x.house(6), 511);
    Buildkeeper y = new Buildkeeper();
    for (int i = 1; i <= 512; i++) {
      Check.is(y.knock(), i);
    }
  }

  /** "Returns REFUSED, always." */
  private static void refusals() {
    for (int i = 0; i < 4; i++) {
      Buildkeeper x = i == 0 ? Scenes.bare() : i == 1 ? Scenes.small() : i == 2 ? Scenes.full() : Scenes.ringed();
      int before = x.house(5);
      Check.promise(45);
      Check.is(x.blank(), REFUSED);
      Check.is(x.house(5), before + 1);
      Check.promise(46);
      Check.is(x.nobody(), REFUSED);
      Check.is(x.house(5), before + 2);
      Check.is(x.house(6), i == 2 ? 1 : 0);
    }
  }

  private static void houses() {
    Check.promise(48);
    Buildkeeper x = Scenes.full();
    int[] due = {4, 24, 4, 10, 2, 1, 1, 1, 1};
    for (int what = 0; what <= 8; what++) {
      Check.is(x.house(what), due[what]);
    }
    Check.argument(() -> x.house(9));
    Check.argument(() -> x.house(-1));
    // "NAMES that are PRODUCTS now and THERE": 10, 19, 11, 12, 13, 20 and 5 to 8
    x.unpattern(8);
    Check.is(x.house(3), 9);
    x.unpattern(5);
    Check.is(x.house(3), 6);
    x.remove(19);
    Check.is(x.house(3), 5);
    x.strike(12);
    Check.is(x.house(3), 4);
    x.pattern(5, 4, 0, 0, 1);
    Check.is(x.house(3), 7);
    x.drop(4);
    Check.is(x.house(3), 4);
    x.mode(false, 3);
    Check.is(x.house(7), 3);
    Check.is(x.house(8), 0);
  }

  /** "BUILDS ever (that were not REFUSED)". */
  private static void theMostBuilds() {
    Check.promise(48);
    Buildkeeper x = new Buildkeeper();
    x.step(10, 0, 0, 1);
    for (int i = 0; i < 500; i++) {
      x.build(10, 1 + i % 6, 0);
    }
    Check.is(x.house(4), 500);
    Check.is(x.history(0, 1), 1 + 499 % 6);
    Check.is(x.history(7, 1), 1 + 492 % 6);
    Check.is(x.history(7, 0), 10);
    x.need(10, 11);
    x.second(10, 11);
    Check.is(x.build(10, 1, 0), REFUSED);
    Check.is(x.house(4), 500);
  }

  // ---- the checksum

  private static BigInteger d;

  private static void add(long v) {
    d = d.multiply(BigInteger.valueOf(31)).add(BigInteger.valueOf(v));
  }

  /**
   * "d becomes d * 31 + v, which wraps around as a 64-bit integer": the sum is put together without a bound, from the
   * answers of new keepers that are made alike, and wrapped around at the end alone.
   */
  private static void digestsWrapAround() {
    Check.promise(50);
    for (int i = 0; i < 4; i++) {
      d = BigInteger.valueOf(5901);
      addHouseAndNames(i);
      addSteps(i);
      addBuilds(i);
      Buildkeeper x = scene(i);
      for (int what = 0; what <= 11; what++) {
        add(x.last(what));
      }
      for (int what = 0; what <= 4; what++) {
        add(x.cached(what));
      }
      for (int what = 2; what <= 5; what++) {
        add(x.history(1, what));
      }
      add(x.isSound() ? 1 : 0);
      Check.is(d.bitLength() > 64, true);
      Check.is(scene(i).digest(), d.longValue());
    }
  }

  private static Buildkeeper scene(int i) {
    return i == 0 ? Scenes.bare() : i == 1 ? Scenes.small() : i == 2 ? Scenes.full() : Scenes.ringed();
  }

  private static void addHouseAndNames(int i) {
    Buildkeeper x = scene(i);
    for (int what = 0; what <= 8; what++) {
      add(x.house(what));
    }
    Buildkeeper y = scene(i);
    for (int name = 0; name < 100; name++) {
      if (y.ofName(name, 0) != 0) {
        add(name);
        for (int what = 0; what <= 5; what++) {
          add(x.ofName(name, what));
        }
        add(x.sum(name));
      }
    }
  }

  private static void addSteps(int i) {
    Buildkeeper x = scene(i);
    for (int head = x.near(0, 2); head != NONE; head = x.near(head, 3)) {
      add(head);
      for (int what = 0; what <= 9; what++) {
        add(x.ofStep(head, what));
      }
      for (int place = x.ofStep(head, 4); place > 0; place--) {
        add(x.needOf(head, x.ofStep(head, 4) - place));
      }
    }
  }

  private static void addBuilds(int i) {
    Buildkeeper x = scene(i);
    Buildkeeper y = scene(i);
    for (int head = 0; head < 100; head++) {
      if (y.ofName(head, 2) == head) {
        for (int what = 0; what <= 6; what++) {
          add(x.ofBuild(head, what));
        }
        int reads = y.ofStep(head, 8);
        for (int place = 0; place < reads; place++) {
          add(y.readOf(head, place));
          add(y.readSum(head, place));
        }
      }
    }
  }

  /** Each thing that the checksum is about changes it. */
  private static void digestsTellApart() {
    Check.promise(50);
    long before = Scenes.full().digest();
    Check.is(Scenes.full().digest(), before);
    Buildkeeper[] others = new Buildkeeper[16];
    for (int i = 0; i < others.length; i++) {
      others[i] = Scenes.full();
    }
    others[0].put(2, 0);
    others[1].unneed(12, 5);
    others[2].step(60, 3, 6, 3);
    others[3].step(60, 3, 5, 2);
    others[4].pattern(5, 4, 0, 0, 3);
    others[5].fault(8, 2);
    others[6].mode(true, 2);
    others[7].mode(false, 1);
    others[8].alter(11, 8);
    others[9].cache(4);
    others[10].build(8, 1, 0);
    others[11].knock();
    others[12].blank();
    others[13].second(60, 98);
    others[14].put(98, 0);
    others[15].strike(60);
    for (int i = 0; i < others.length; i++) {
      long after = others[i].digest();
      // by the LENGTH of a PATTERN it is not asked, unless of its steps; own steps alone tell theirs
      Check.is(after != before, i != 4 && i != 5);
      Check.is(others[i].digest(), after);
    }
  }

  /** "Creates a keeper without SOURCES and STEPS": two objects have nothing in common. */
  private static void oneObjectAndAnother() {
    Check.promise(1);
    Buildkeeper x = new Buildkeeper();
    Buildkeeper y = Scenes.full();
    long ofNone = new Buildkeeper().digest();
    Check.is(x.digest(), ofNone);
    y.build(14, 6, 9);
    Check.is(x.digest(), ofNone);
    x.put(1, 1);
    Check.is(y.text(1), "8 7 6 5 4 3 2 1");
    Check.is(Sight.of(Scenes.full()), Sight.of(Scenes.full()));
  }
}
