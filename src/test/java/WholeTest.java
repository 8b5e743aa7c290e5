/** Promises 42 to 50: from nothing, the cache, and all. */
public final class WholeTest {
  private static final int NONE = -1;
  private static final int REFUSED = -9;

  public static void main(String[] args) {
    promise42();
    promise43();
    promise44();
    promise45And46();
    promise47();
    promise48();
    promise49();
    promise50();
    Check.end();
  }

  /** 1 has 5 and 3; 10 joins 1 and counts it in 19; 11 sorts 10, then 19. */
  private static Buildkeeper small() {
    Buildkeeper x = new Buildkeeper();
    x.put(1, 5);
    x.put(1, 3);
    x.step(10, 0, 0, 4);
    x.second(10, 19);
    x.need(10, 1);
    x.step(11, 1, 0, 2);
    x.need(11, 10);
    x.need(11, 19);
    return x;
  }

  private static void promise42() {
    Check.promise(42);
    Buildkeeper x = small();
    Check.is(x.scratch(1), "5 3");
    Check.is(x.scratch(10), "5 3");
    Check.is(x.scratch(19), "2");
    Check.is(x.scratch(11), "2 3 5");
    Check.is(x.scratch(50), "?");
    x.build(11, 1, 0);
    x.alter(10, 9);
    Check.is(x.scratch(11), "2 3 5");
    Check.is(x.text(10), "9");
    x.wipe(1);
    Check.is(x.scratch(10), "-");
    Check.is(x.scratch(19), "0");
    x.drop(1);
    Check.is(x.scratch(10), "?");
    Check.is(x.scratch(19), "?");
    Check.is(x.scratch(11), "?");
    Check.index(() -> x.scratch(-1));
    Check.index(() -> x.scratch(100));
    scratchOfGroups();
    scratchOfFound();
    // more than 8 numbers
    Buildkeeper y = small();
    for (int i = 0; i < 6; i++) {
      y.put(1, i);
    }
    Check.is(y.scratch(10), "5 3 0 1 2 3 4 5");
    Check.is(y.scratch(19), "8");
    Check.is(y.scratch(11), "?");
    // a ring, and who needs it
    Buildkeeper z = new Buildkeeper();
    z.step(10, 2, 0, 1);
    z.need(10, 11);
    z.step(12, 2, 0, 1);
    z.need(12, 10);
    z.step(13, 2, 0, 1);
    z.second(10, 11);
    Check.is(z.scratch(10), "?");
    Check.is(z.scratch(12), "?");
    Check.is(z.scratch(13), "0");
  }

  private static void scratchOfGroups() {
    Buildkeeper x = small();
    x.step(20, 6, 0, 1);
    x.second(20, 21);
    x.need(20, 11);
    Check.is(x.scratch(20), "-");
    Check.is(x.scratch(21), "-");
    x.need(20, 50);
    Check.is(x.scratch(20), "?");
    Check.is(x.scratch(21), "?");
    x.pattern(2, 1, 2, 0, 1);
    Check.is(x.scratch(2), "2");
    Check.is(x.scratch(12), "3");
  }

  private static void scratchOfFound() {
    Buildkeeper x = small();
    x.put(3, 11);
    x.put(3, 19);
    x.step(30, 4, 0, 1);
    Check.is(x.scratch(30), "-");
    x.need(30, 3);
    x.need(30, 1);
    Check.is(x.scratch(30), "2 3 5 2 5 3");
    x.put(3, 4);
    Check.is(x.scratch(30), "?");
    x.put(4, 4);
    Check.is(x.scratch(30), "2 3 5 2 4 5 3");
    x.put(3, 30);
    Check.is(x.scratch(30), "?");
    Check.is(x.scratch(11), "2 3 5");
    // what it finds by a product that is not there
    x.step(40, 4, 0, 1);
    x.need(40, 19);
    x.put(2, 7);
    Check.is(x.scratch(40), "7");
  }

  private static void promise43() {
    Check.promise(43);
    Buildkeeper x = small();
    x.cache(3);
    int[] before = {3, 0, 0, 0, 0};
    for (int what = 0; what <= 4; what++) {
      Check.is(x.cached(what), before[what]);
    }
    x.build(11, 1, 0);
    x.remove(10);
    x.poison(0, 9);
    x.remove(11);
    x.build(11, 1, 0);
    int[] after = {3, 2, 1, 2, 1};
    for (int what = 0; what <= 4; what++) {
      Check.is(x.cached(what), after[what]);
    }
    // what is only asked does not count
    x.remove(11);
    x.ofName(11, 5);
    x.would(11, 1, 2);
    x.wouldDo(11, 0);
    x.isSound();
    x.digest();
    for (int what = 0; what <= 4; what++) {
      Check.is(x.cached(what), after[what]);
    }
    Check.argument(() -> x.cached(-1));
    Check.argument(() -> x.cached(5));
  }

  private static void promise44() {
    Check.promise(44);
    Buildkeeper x = small();
    Check.is(x.cachedAt(0), "?");
    x.cache(3);
    x.build(11, 1, 0);
    Check.is(x.cachedAt(0), "5 3");
    Check.is(x.cachedAt(1), "2 3 5");
    Check.is(x.cachedAt(2), "?");
    Check.is(x.cachedAt(Integer.MAX_VALUE), "?");
    x.wipe(1);
    x.build(10, 1, 0);
    Check.is(x.cachedAt(2), "-");
    x.build(11, 1, 0);
    Check.is(x.cachedAt(0), "2 3 5");
    Check.is(x.cachedAt(2), "0");
    Check.argument(() -> x.cachedAt(-1));
  }

  private static void promise45And46() {
    Buildkeeper x = new Buildkeeper();
    Check.promise(45);
    Check.is(x.blank(), REFUSED);
    Check.is(x.blank(), REFUSED);
    Check.is(x.house(5), 2);
    Check.promise(46);
    Check.is(x.nobody(), REFUSED);
    Check.is(x.house(5), 3);
  }

  private static void promise47() {
    Check.promise(47);
    Buildkeeper x = new Buildkeeper();
    Check.is(x.knock(), 1);
    Check.is(x.knock(), 2);
    Check.is(x.house(6), 2);
    Check.is(new Buildkeeper().knock(), 1);
  }

  private static void promise48() {
    Check.promise(48);
    Buildkeeper x = small();
    x.pattern(2, 1, 0, 0, 1);
    x.mode(false, 2);
    x.knock();
    x.blank();
    x.step(20, 6, 0, 1);
    x.build(11, 1, 0);
    x.build(2, 1, 0);
    x.put(0, 0);
    int[] due = {2, 3, 1, 4, 2, 1, 1, 2, 0};
    for (int what = 0; what <= 8; what++) {
      Check.is(x.house(what), due[what]);
    }
    x.unpattern(2);
    Check.is(x.house(3), 3);
    x.mode(true, 0);
    Check.is(x.house(8), 1);
    Check.argument(() -> x.house(-1));
    Check.argument(() -> x.house(9));
  }

  private static void promise49() {
    Check.promise(49);
    Check.is(new Buildkeeper().isSound(), true);
    Buildkeeper x = small();
    Check.is(x.isSound(), true);
    x.fault(10, 9);
    x.mode(false, 0);
    x.cache(2);
    x.put(2, 20);
    x.step(20, 4, 0, 1);
    x.need(20, 2);
    x.step(5, 0, 0, 1);
    x.need(5, 20);
    x.need(5, 11);
    x.step(3, 6, 0, 1);
    long before = x.digest();
    Check.is(x.isSound(), true);
    Check.is(x.digest(), before);
    Check.is(x.text(10), "?");
    Check.is(x.ofStep(10, 5), 9);
    Check.is(x.trace(), "-");
    x.need(10, 70);
    x.second(10, 70);
    Check.is(x.ring(70), "70>70");
    Check.is(x.isSound(), true);
    Check.is(x.house(4), 0);
  }

  private static void promise50() {
    Check.promise(50);
    for (int turn = 0; turn <= 7; turn++) {
      Check.is(after(turn).digest(), added(turn));
    }
    Check.is(after(1).digest() != after(0).digest(), true);
    Buildkeeper x = after(5);
    Check.is(x.digest(), x.digest());
  }

  /** A keeper after so many turns of calls. */
  private static Buildkeeper after(int turns) {
    Buildkeeper x = turns == 0 ? new Buildkeeper() : small();
    for (int turn = 2; turn <= turns; turn++) {
      takeTurn(x, turn);
    }
    return x;
  }

  private static void takeTurn(Buildkeeper x, int turn) {
    switch (turn) {
      case 2:
        x.pattern(7, 1, 2, 0, 3);
        x.cache(2);
        x.put(4, 19);
        x.put(4, 17);
        x.step(40, 4, 3, 2);
        x.need(40, 4);
        x.need(40, 1);
        x.step(50, 6, 0, 1);
        x.need(50, 40);
        x.need(50, 11);
        break;
      case 4:
        x.alter(10, 8);
        x.fault(17, 3);
        x.mode(false, 1);
        x.knock();
        x.blank();
        break;
      case 6:
        x.second(11, 18);
        x.build(50, 1, 0);
        break;
      case 7:
        x.need(10, 18);
        x.need(10, 90);
        x.second(10, 90);
        break;
      default:
        x.build(50, 2, 3);
    }
  }

  private static long d;

  private static void add(long v) {
    d = d * 31 + v;
  }

  /** The checksum, put together from what the other calls answer; two keepers that are alike share them. */
  private static long added(int turns) {
    d = 5901;
    addNamesAndSteps(after(turns));
    addBuilds(after(turns));
    return d;
  }

  private static void addNamesAndSteps(Buildkeeper x) {
    for (int what = 0; what <= 8; what++) {
      add(x.house(what));
    }
    for (int name = 0; name < 100; name++) {
      if (x.ofName(name, 0) != 0) {
        add(name);
        for (int what = 0; what <= 5; what++) {
          add(x.ofName(name, what));
        }
        add(x.sum(name));
      }
    }
    for (int head = x.near(0, 2); head != NONE; head = head < 99 ? x.near(head, 3) : NONE) {
      add(head);
      for (int what = 0; what <= 9; what++) {
        add(x.ofStep(head, what));
      }
      for (int place = 0; place < x.ofStep(head, 4); place++) {
        add(x.needOf(head, place));
      }
    }
  }

  private static void addBuilds(Buildkeeper x) {
    for (int head = 0; head < 100; head++) {
      if (x.ofName(head, 2) == head) {
        for (int what = 0; what <= 6; what++) {
          add(x.ofBuild(head, what));
        }
        for (int place = 0; place < x.ofStep(head, 8); place++) {
          add(x.readOf(head, place));
          add(x.readSum(head, place));
        }
      }
    }
    for (int what = 0; what <= 11; what++) {
      add(x.last(what));
    }
    for (int what = 0; what <= 4; what++) {
      add(x.cached(what));
    }
    for (int what = 2; what <= 5; what++) {
      add(x.history(1, what));
    }
    add(x.isSound() ? 1 : 0);
  }
}
