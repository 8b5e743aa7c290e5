/** Promises 14 to 18 and 36 to 41: builds, what disturbs them, and what would be built. */
public final class BuildTest {
  private static final int NONE = -1;
  private static final int REFUSED = -9;

  private static final int CLEAN = 1;
  private static final int FETCHED = 2;
  private static final int DONE = 3;
  private static final int SAME = 4;
  private static final int FAILED = 5;
  private static final int HANGS = 6;
  private static final int STOPPED = 7;
  private static final int GATHERED = 8;

  public static void main(String[] args) {
    promise14();
    promise15();
    promise16();
    promise17();
    promise18();
    resultsOfKinds();
    reasonsOfLooking();
    foundOnTheWay();
    handsAndWeights();
    faultsAndStops();
    ringsOfWaiting();
    theCacheInABuild();
    promise36();
    promise37And39();
    promise38();
    promise40();
    promise41();
    Check.end();
  }

  /** 1 has 5 and 3; 10 joins 1 and counts it in 19; 11 sorts 10, then 19. */
  private static Buildkeeper small() {
    Buildkeeper x = new Buildkeeper();
    x.put(1, 5);
    x.put(1, 3);
    x.step(10, 0, 0, 4);
    x.second(10, 19);
    x.need(10, 1);
    x.step(11, 1, 0, 2);
    x.need(11, 10);
    x.need(11, 19);
    return x;
  }

  private static void put(Buildkeeper x, int name, int... numbers) {
    for (int number : numbers) {
      x.put(name, number);
    }
  }

  /** Checks of a step what became of it, the reason and the name. */
  private static void became(Buildkeeper x, int head, int state, int reason, int name) {
    Check.is(x.ofBuild(head, 0), state);
    Check.is(x.ofBuild(head, 1), reason);
    Check.is(x.ofBuild(head, 2), name);
  }

  private static void promise14() {
    Check.promise(14);
    Buildkeeper x = small();
    Check.is(x.alter(10, 1), REFUSED);
    x.build(11, 1, 0);
    Check.is(x.alter(10, 99), 2);
    Check.is(x.text(10), "99");
    Check.is(x.alter(19, 0), 1);
    Check.is(x.text(19), "0");
    Check.index(() -> x.alter(-1, 0));
    Check.index(() -> x.alter(100, 100));
    Check.argument(() -> x.alter(1, -1));
    Check.argument(() -> x.alter(1, 100));
    Check.state(() -> x.alter(1, 0));
    Check.state(() -> x.alter(50, 0));
    x.step(20, 6, 0, 1);
    Check.is(x.alter(20, 1), REFUSED);
    Check.is(x.house(5), 2);
    x.pattern(2, 1, 0, 0, 1);
    Check.is(x.alter(2, 1), REFUSED);
    x.build(2, 1, 0);
    Check.is(x.alter(2, 1), 2);
  }

  private static void promise15() {
    Check.promise(15);
    Buildkeeper x = small();
    Check.is(x.remove(10), REFUSED);
    x.build(11, 1, 0);
    Check.is(x.remove(10), 2);
    Check.is(x.text(10), "?");
    Check.is(x.text(19), "2");
    Check.is(x.remove(10), REFUSED);
    Check.is(x.remove(19), 1);
    Check.is(x.house(3), 1);
    Check.index(() -> x.remove(-1));
    Check.index(() -> x.remove(100));
    Check.state(() -> x.remove(1));
    Check.state(() -> x.remove(50));
  }

  private static void promise16() {
    Check.promise(16);
    Buildkeeper x = small();
    Check.is(x.cache(12), 0);
    x.build(11, 1, 0);
    Check.is(x.cache(2), 2);
    Check.is(x.cache(1), 1);
    Check.is(x.cachedAt(0), "2 3 5");
    Check.is(x.cache(0), 0);
    Check.argument(() -> x.cache(-1));
    Check.argument(() -> x.cache(13));
    Check.is(x.cached(0), 0);
  }

  private static void promise17() {
    Check.promise(17);
    Buildkeeper x = small();
    Check.is(x.poison(0, 1), REFUSED);
    x.cache(5);
    x.build(11, 1, 0);
    Check.is(x.poison(0, 9), 2);
    Check.is(x.cachedAt(0), "9");
    Check.is(x.poison(0, 5), 1);
    Check.is(x.poison(2, 5), REFUSED);
    Check.is(x.poison(-1, 5), REFUSED);
    Check.argument(() -> x.poison(0, -1));
    Check.argument(() -> x.poison(9, 100));
    Check.is(x.text(10), "5 3");
    Check.is(x.house(5), 3);
  }

  private static void promise18() {
    Check.promise(18);
    Buildkeeper x = small();
    Check.is(x.build(11, 1, 0), 6);
    Check.is(x.text(10), "5 3");
    Check.is(x.text(19), "2");
    Check.is(x.text(11), "2 3 5");
    Check.is(x.build(11, 1, 0), 0);
    Check.is(x.build(19, 6, 9), 0);
    Check.index(() -> x.build(-1, 0, 0));
    Check.index(() -> x.build(100, 1, 0));
    Check.argument(() -> x.build(1, 0, 0));
    Check.argument(() -> x.build(11, 7, 0));
    Check.argument(() -> x.build(11, 1, -1));
    Check.argument(() -> x.build(11, 1, 10));
    Check.state(() -> x.build(1, 1, 0));
    Check.state(() -> x.build(50, 1, 0));
    // a ring anywhere
    x.step(30, 0, 0, 1);
    x.need(30, 31);
    x.second(30, 31);
    Check.is(x.build(11, 1, 0), REFUSED);
    Check.is(x.house(4), 3);
    Check.is(x.last(0), 19);
    x.second(30, 30);
    Check.is(x.build(11, 1, 0), 0);
    // only what is wanted
    x.put(1, 9);
    Check.is(x.build(10, 1, 3), 6);
    Check.is(x.ofBuild(11, 0), 0);
    Check.is(x.text(11), "2 3 5");
  }

  private static void resultsOfKinds() {
    Check.promise(18);
    Buildkeeper x = new Buildkeeper();
    put(x, 1, 7, 0, 99);
    put(x, 2, 4, 7);
    x.put(3, 1);
    x.wipe(3);
    String[] due = {"7 0 99 4 7", "0 4 7 7 99", "5", "7 0 99 4", "?", "7 99 7", "-"};
    for (int kind = 0; kind <= 6; kind++) {
      int head = 10 + kind;
      x.step(head, kind, kind == 5 ? 5 : 4, 1);
      x.second(head, 20 + kind);
      x.need(head, 1);
      x.need(head, 3);
      x.need(head, 2);
      x.build(head, 1, 0);
      Check.is(x.text(head), due[kind]);
    }
    String[] seconds = {"5", "5", "1", "4", "?", "3", "-"};
    for (int kind = 0; kind <= 6; kind++) {
      Check.is(x.text(20 + kind), seconds[kind]);
    }
    x.step(15, 5, 7, 1);
    x.build(15, 1, 0);
    Check.is(x.text(15), "7 99 7");
    x.step(15, 5, 99, 1);
    x.build(15, 1, 0);
    Check.is(x.text(15), "99");
    x.step(15, 5, 0, 1);
    x.build(15, 1, 0);
    Check.is(x.text(15), "7 0 99 4 7");
    // all, if there are no more; none by the parameter 0; without needs
    x.step(13, 3, 5, 1);
    x.build(13, 1, 0);
    Check.is(x.text(13), "7 0 99 4 7");
    x.step(13, 3, 0, 1);
    x.build(13, 1, 0);
    Check.is(x.text(13), "-");
    Check.is(x.text(23), "0");
    x.step(40, 2, 0, 1);
    x.build(40, 1, 0);
    Check.is(x.text(40), "0");
    x.step(41, 4, 0, 1);
    x.build(41, 1, 0);
    Check.is(x.text(41), "-");
    // more than 8 numbers: only what the result would have counts
    put(x, 1, 1, 2, 3, 4, 5);
    Check.is(x.build(10, 1, 0), 1);
    became(x, 10, FAILED, 8, NONE);
    Check.is(x.text(10), "7 0 99 4 7");
    x.step(10, 3, 8, 1);
    x.build(10, 1, 0);
    Check.is(x.text(10), "7 0 99 1 2 3 4 5");
    x.step(10, 3, 9, 1);
    x.build(10, 1, 0);
    became(x, 10, FAILED, 8, NONE);
    x.step(10, 2, 0, 1);
    x.build(10, 1, 0);
    Check.is(x.text(10), "10");
  }

  private static void reasonsOfLooking() {
    Check.promise(18);
    Buildkeeper x = small();
    x.build(10, 1, 0);
    became(x, 10, DONE, 1, NONE);
    x.build(10, 1, 0);
    became(x, 10, CLEAN, 0, NONE);
    x.step(10, 0, 1, 4);
    x.build(10, 1, 0);
    became(x, 10, SAME, 2, NONE);
    x.step(10, 0, 1, 9);
    x.build(10, 1, 0);
    became(x, 10, CLEAN, 0, NONE);
    // a need that comes, goes, or changes its place
    put(x, 2, 8);
    x.need(10, 2);
    x.build(10, 1, 0);
    became(x, 10, DONE, 3, 2);
    x.unneed(10, 0);
    x.need(10, 1);
    x.build(10, 1, 0);
    became(x, 10, DONE, 3, 2);
    Check.is(x.text(10), "8 5 3");
    x.unneed(10, 1);
    x.build(10, 1, 0);
    became(x, 10, DONE, 3, 1);
    x.unneed(10, 0);
    x.build(10, 1, 0);
    became(x, 10, DONE, 3, 2);
    x.need(10, 1);
    x.need(10, 2);
    x.build(10, 1, 0);
    became(x, 10, DONE, 3, 1);
    // another sum: the first name of these
    x.put(2, 1);
    x.build(10, 1, 0);
    became(x, 10, DONE, 4, 2);
    x.put(2, 1);
    x.put(1, 1);
    x.build(10, 1, 0);
    became(x, 10, DONE, 4, 1);
    // a product that is not there, the head first, ahead of one that was altered
    x.alter(10, 1);
    x.remove(19);
    x.build(10, 1, 0);
    became(x, 10, DONE, 5, 19);
    x.remove(10);
    x.remove(19);
    x.build(10, 1, 0);
    became(x, 10, DONE, 5, 10);
    x.alter(19, 1);
    x.build(10, 1, 0);
    became(x, 10, DONE, 6, 19);
    x.alter(10, 1);
    x.alter(19, 1);
    x.build(10, 1, 0);
    became(x, 10, DONE, 6, 10);
    Check.is(x.text(10), "5 3 1 8 1 1");
    Check.is(x.text(19), "6");
    // altered, but to what it was
    x.alter(19, 6);
    x.build(10, 1, 0);
    became(x, 10, CLEAN, 0, NONE);
  }

  private static void foundOnTheWay() {
    Check.promise(18);
    Buildkeeper x = new Buildkeeper();
    put(x, 1, 20, 2, 20);
    put(x, 2, 7);
    put(x, 3, 9);
    x.step(20, 2, 0, 3);
    x.need(20, 2);
    x.step(21, 0, 0, 5);
    x.need(21, 20);
    x.step(10, 4, 0, 2);
    x.need(10, 1);
    x.need(10, 3);
    Check.is(x.build(10, 1, 0), 5);
    Check.is(x.text(10), "1 7 1 9");
    Check.is(x.last(11), 2);
    Check.is(x.ofBuild(20, 4), 3);
    Check.is(x.ofBuild(10, 3), 3);
    Check.is(x.ofStep(10, 8), 5);
    Check.is(x.build(10, 1, 0), 0);
    became(x, 10, CLEAN, 0, NONE);
    became(x, 20, CLEAN, 0, NONE);
    put(x, 2, 8);
    x.build(10, 1, 0);
    became(x, 10, DONE, 4, 20);
    Check.is(x.text(10), "2 7 8 2 9");
    // what is found now is another one; the one found before is not wanted any more
    x.wipe(1);
    put(x, 1, 21);
    Check.is(x.build(10, 1, 0), 7);
    became(x, 10, DONE, 3, 21);
    Check.is(x.text(10), "2 9");
    Check.is(x.last(11), 3);
    // fewer now
    x.wipe(1);
    x.build(10, 1, 0);
    became(x, 10, DONE, 3, 21);
    Check.is(x.last(11), 1);
    // found by a product, and neither a source nor a product
    x.unneed(10, 0);
    x.unneed(10, 0);
    x.need(10, 20);
    x.need(10, 3);
    x.build(10, 1, 0);
    Check.is(x.text(20), "2");
    became(x, 10, DONE, 3, 20);
    Check.is(x.text(10), "7 8 9");
    x.drop(3);
    x.build(10, 1, 0);
    became(x, 10, FAILED, 9, 3);
    x.put(3, 1);
    x.wipe(2);
    put(x, 2, 1, 1, 1);
    x.drop(3);
    x.build(10, 1, 0);
    became(x, 10, FAILED, 9, 3);
    x.unneed(10, 1);
    x.drop(2);
    put(x, 2, 2, 2, 2, 2, 50, 50, 50, 50);
    x.build(10, 1, 0);
    became(x, 10, FAILED, 9, 8);
    Check.is(x.text(10), "7 8 9");
    // a group as the first need finds nothing
    x.step(20, 6, 0, 1);
    x.build(10, 1, 0);
    Check.is(x.text(10), "-");
    Check.is(x.ofStep(10, 8), 1);
  }

  private static void handsAndWeights() {
    Check.promise(18);
    Buildkeeper x = new Buildkeeper();
    put(x, 1, 1);
    int[] lengths = {2, 5, 5, 1, 3};
    for (int i = 0; i < lengths.length; i++) {
      x.step(10 + i, 2, 0, lengths[i]);
      x.need(10 + i, 1);
    }
    // 13 is short, but 20 waits for its second product, and is long
    x.second(13, 33);
    x.step(20, 0, 0, 9);
    x.need(20, 33);
    x.step(30, 6, 0, 9);
    for (int i = 0; i < lengths.length; i++) {
      x.need(30, 10 + i);
    }
    x.need(30, 20);
    Check.is(x.build(30, 2, 0), 13);
    Check.is(x.trace(), "13@0 11@0 20@1 12@5 14@10 10@10");
    Check.is(x.ofBuild(13, 6), 0);
    Check.is(x.ofBuild(11, 6), 1);
    Check.is(x.ofBuild(12, 6), 1);
    Check.is(x.ofBuild(14, 6), 0);
    Check.is(x.ofBuild(10, 6), 1);
    Check.is(x.ofBuild(30, 0), GATHERED);
    // shaken: 11 takes 5 + 33 % 4, 13 1 + 39 % 4
    put(x, 1, 2);
    x.remove(20);
    Check.is(x.build(30, 6, 3), 13);
    Check.is(x.trace(), "13@0 11@0 12@0 14@0 10@0 20@4");
    Check.is(x.ofBuild(11, 4), 6);
    Check.is(x.ofBuild(13, 4), 4);
    Check.is(x.ofBuild(14, 4), 5);
    Check.is(x.ofBuild(20, 4), 13);
  }

  private static void faultsAndStops() {
    Check.promise(18);
    Buildkeeper x = new Buildkeeper();
    put(x, 1, 1);
    int[] lengths = {2, 4, 6};
    x.step(30, 6, 0, 1);
    for (int i = 0; i < 3; i++) {
      x.step(10 + i, 0, 0, lengths[i]);
      x.need(10 + i, 1);
      x.need(30, 10 + i);
    }
    x.mode(true, 2);
    x.fault(10, 3);
    x.fault(11, 2);
    Check.is(x.build(30, 3, 0), 12);
    Check.is(x.trace(), "12@0 11@0 10@0 10@2 10@4 11@4 11@8");
    became(x, 10, FAILED, 7, NONE);
    Check.is(x.ofBuild(10, 5), 3);
    Check.is(x.ofBuild(10, 4), 6);
    became(x, 11, DONE, 1, NONE);
    Check.is(x.ofStep(11, 9), 12);
    became(x, 30, HANGS, 11, 10);
    Check.is(x.ofStep(10, 5), 0);
    Check.is(x.ofStep(10, 6), 0);
    // not kept going: what is at work ends, nothing is tried again, nothing begins
    x.put(1, 2);
    x.mode(false, 3);
    x.fault(10, 9);
    x.fault(12, 1);
    x.step(9, 0, 0, 1);
    x.need(9, 11);
    x.need(30, 9);
    x.step(13, 0, 0, 3);
    x.need(13, 1);
    x.step(14, 0, 0, 1);
    x.need(30, 13);
    x.need(30, 14);
    Check.is(x.build(30, 2, 0), 15);
    Check.is(x.trace(), "12@0 11@0 13@4 12@6 10@7 10@9 10@11 9@12 10@13 14@13");
    became(x, 10, FAILED, 7, NONE);
    became(x, 12, DONE, 4, 1);
    became(x, 30, STOPPED, 0, NONE);
    x.mode(false, 0);
    x.fault(11, 1);
    x.put(1, 3);
    Check.is(x.build(30, 3, 0), 6);
    became(x, 11, FAILED, 7, NONE);
    Check.is(x.ofBuild(12, 4), 6);
    Check.is(x.ofBuild(9, 0), STOPPED);
    Check.is(x.ofBuild(9, 4), NONE);
    became(x, 30, STOPPED, 0, NONE);
    // failed already by what is missing: all the others are stopped, one of them looked at
    Buildkeeper y = new Buildkeeper();
    y.put(1, 1);
    y.step(10, 0, 0, 1);
    y.need(10, 1);
    y.step(11, 0, 0, 1);
    y.need(11, 2);
    y.step(12, 0, 0, 1);
    y.need(12, 1);
    y.step(13, 6, 0, 1);
    y.need(13, 10);
    y.need(13, 11);
    y.need(13, 12);
    y.mode(false, 0);
    Check.is(y.build(13, 6, 0), 0);
    became(y, 10, STOPPED, 1, NONE);
    became(y, 11, FAILED, 9, 2);
    became(y, 12, STOPPED, 0, NONE);
    Check.is(y.trace(), "-");
    Check.is(y.last(9), 3);
    Check.is(y.text(10), "?");
    y.mode(true, 0);
    Check.is(y.build(13, 6, 0), 1);
    became(y, 13, HANGS, 11, 11);
    Check.is(y.ofBuild(13, 4), 1);
    // one that fails at the same time, ahead of another one, takes its second try
    Buildkeeper z = new Buildkeeper();
    z.step(10, 0, 0, 2);
    z.step(11, 0, 0, 1);
    z.step(12, 0, 0, 2);
    z.step(13, 6, 0, 1);
    z.need(13, 10);
    z.need(13, 12);
    z.mode(false, 1);
    z.fault(10, 1);
    z.fault(12, 2);
    Check.is(z.build(13, 2, 0), 4);
    became(z, 12, FAILED, 7, NONE);
    z.alter(10, 1);
    z.fault(10, 2);
    z.fault(12, 1);
    z.mode(false, 0);
    z.need(13, 11);
    z.build(13, 2, 0);
    became(z, 10, FAILED, 7, NONE);
    became(z, 12, FAILED, 7, NONE);
    became(z, 11, STOPPED, 1, NONE);
  }

  private static void ringsOfWaiting() {
    Check.promise(18);
    Buildkeeper x = new Buildkeeper();
    put(x, 1, 21);
    put(x, 2, 20);
    x.step(20, 4, 0, 1);
    x.need(20, 1);
    x.step(21, 4, 0, 1);
    x.need(21, 2);
    x.step(22, 0, 0, 1);
    x.need(22, 21);
    x.step(23, 0, 0, 3);
    x.need(23, 2);
    x.step(24, 6, 0, 1);
    x.need(24, 22);
    x.need(24, 23);
    Check.is(x.build(24, 1, 0), 3);
    became(x, 20, FAILED, 10, 21);
    became(x, 21, FAILED, 10, 20);
    became(x, 22, HANGS, 11, 21);
    became(x, 23, DONE, 1, NONE);
    became(x, 24, HANGS, 11, 22);
    Check.is(x.ofBuild(20, 4), 3);
    // all of a ring fail together, even if nothing is kept going; who only waits for them is stopped
    x.mode(false, 0);
    x.build(24, 1, 0);
    became(x, 20, FAILED, 10, 21);
    became(x, 21, FAILED, 10, 20);
    became(x, 22, STOPPED, 0, NONE);
    became(x, 23, CLEAN, 0, NONE);
    // stopped, it tells of no ring
    x.put(2, 1);
    x.fault(23, 1);
    x.build(24, 1, 0);
    became(x, 20, STOPPED, 0, NONE);
    became(x, 23, FAILED, 7, NONE);
    // itself
    Buildkeeper y = new Buildkeeper();
    put(y, 1, 20);
    y.step(20, 4, 0, 1);
    y.need(20, 1);
    y.second(20, 29);
    y.build(29, 1, 0);
    became(y, 20, FAILED, 10, 20);
    y.wipe(1);
    put(y, 1, 1, 29);
    y.build(29, 1, 0);
    became(y, 20, FAILED, 10, 29);
    Check.is(y.text(20), "?");
  }

  private static void theCacheInABuild() {
    Check.promise(18);
    Buildkeeper x = small();
    x.cache(3);
    x.build(11, 1, 0);
    x.put(1, 4);
    x.build(11, 1, 0);
    Check.is(x.cached(1), 3);
    Check.is(x.cachedAt(0), "2 3 5");
    // fetched: in no time, with the second product, by another step, too
    x.step(40, 0, 0, 9);
    x.need(40, 1);
    x.second(40, 41);
    Check.is(x.build(40, 1, 0), 0);
    became(x, 40, FETCHED, 1, NONE);
    Check.is(x.text(40), "5 3 4");
    Check.is(x.text(41), "3");
    Check.is(x.ofStep(40, 8), 1);
    Check.is(x.ofStep(40, 6), 0);
    Check.is(x.ofStep(40, 7), 1);
    Check.is(x.ofStep(40, 9), NONE);
    Check.is(x.ofBuild(40, 3), NONE);
    Check.is(x.ofBuild(40, 4), 0);
    Check.is(x.ofBuild(40, 5), 0);
    Check.is(x.ofBuild(40, 6), NONE);
    Check.is(x.build(40, 1, 0), 0);
    became(x, 40, CLEAN, 0, NONE);
    // who was fetched is the latest one
    Check.is(x.cachedAt(2), "5 3 4");
    Check.is(x.cached(2), 1);
    Check.is(x.cached(3), 4);
    // a wrong one goes, and is not counted as missed
    x.poison(2, 9);
    x.remove(10);
    Check.is(x.build(10, 1, 0), 4);
    became(x, 10, DONE, 5, 10);
    Check.is(x.cached(4), 1);
    Check.is(x.cached(3), 4);
    Check.is(x.cachedAt(2), "5 3 4");
    x.poison(2, 9);
    x.remove(10);
    x.fault(10, 1);
    x.build(10, 1, 0);
    became(x, 10, FAILED, 7, NONE);
    Check.is(x.cached(1), 2);
    Check.is(x.cached(4), 2);
    x.build(10, 1, 0);
    Check.is(x.cached(1), 3);
    Check.is(x.cached(3), 5);
    // poisoned with what it is, it is not wrong
    x.step(50, 2, 0, 1);
    x.need(50, 1);
    x.build(50, 1, 0);
    Check.is(x.poison(2, 3), 1);
    x.remove(50);
    x.build(50, 1, 0);
    became(x, 50, FETCHED, 5, 50);
    Check.is(x.text(50), "3");
    // the rule is of the key, with a parameter that does nothing
    x.step(50, 2, 1, 1);
    x.build(50, 1, 0);
    became(x, 50, SAME, 2, NONE);
    // two with the same key at once: the later one takes the place of that entry
    Buildkeeper y = new Buildkeeper();
    y.put(1, 1);
    y.cache(5);
    y.step(10, 0, 0, 1);
    y.need(10, 1);
    y.step(11, 2, 0, 1);
    y.need(11, 1);
    y.step(12, 0, 0, 2);
    y.need(12, 1);
    y.step(13, 6, 0, 1);
    y.need(13, 10);
    y.need(13, 11);
    y.need(13, 12);
    y.build(13, 3, 0);
    Check.is(y.cached(1), 2);
    Check.is(y.cached(3), 3);
    Check.is(y.cachedAt(0), "1");
    Check.is(y.poison(1, 8), 1);
    y.remove(11);
    y.build(11, 1, 0);
    became(y, 11, FETCHED, 5, 11);
    // with a bound of 0 nothing is missed
    y.cache(0);
    y.remove(11);
    y.build(11, 1, 0);
    Check.is(y.cached(3), 3);
    became(y, 11, DONE, 5, 11);
  }

  private static void promise36() {
    Check.promise(36);
    Buildkeeper x = small();
    int[] none = {0, 0, NONE, NONE, NONE, 0, NONE};
    for (int what = 0; what <= 6; what++) {
      Check.is(x.ofBuild(10, what), none[what]);
    }
    x.build(11, 2, 0);
    int[] due = {DONE, 1, NONE, 4, 6, 1, 0};
    for (int what = 0; what <= 6; what++) {
      Check.is(x.ofBuild(11, what), due[what]);
      Check.is(x.ofBuild(19, what), none[what]);
      Check.is(x.ofBuild(1, what), none[what]);
    }
    x.alter(10, 5);
    x.build(10, 1, 0);
    Check.is(x.ofBuild(11, 0), 0);
    Check.is(x.ofBuild(10, 1), 6);
    x.strike(10);
    Check.is(x.ofBuild(10, 0), DONE);
    Check.index(() -> x.ofBuild(-1, -1));
    Check.index(() -> x.ofBuild(100, 0));
    Check.argument(() -> x.ofBuild(10, -1));
    Check.argument(() -> x.ofBuild(10, 7));
  }

  private static void promise37And39() {
    Buildkeeper x = small();
    x.step(20, 6, 0, 1);
    x.need(20, 11);
    x.need(20, 10);
    x.step(21, 0, 0, 1);
    x.need(21, 2);
    for (int what = 0; what < 12; what++) {
      Check.promise(37);
      Check.is(x.last(what), NONE);
      Check.promise(39);
      Check.is(x.history(0, what), NONE);
    }
    int[][] due = {
      {20, 3, 6, 2, 0, 0, 0, 0, 0, 0, 1, 3},
      {20, 1, 0, 0, 0, 2, 0, 0, 0, 0, 1, 3},
      {20, 1, 4, 1, 0, 1, 0, 0, 0, 0, 1, 3},
      {21, 6, 0, 0, 0, 0, 0, 1, 0, 0, 0, 1},
    };
    for (int i = 0; i < due.length; i++) {
      if (i == 2) {
        x.alter(19, 50);
      }
      x.build(due[i][0], due[i][1], 0);
      for (int what = 0; what < 12; what++) {
        Check.promise(37);
        Check.is(x.last(what), due[i][what]);
        Check.promise(39);
        for (int nth = 0; nth <= i; nth++) {
          Check.is(x.history(nth, what), due[i - nth][what]);
        }
        Check.is(x.history(i + 1, what), NONE);
      }
    }
    for (int i = 0; i < 6; i++) {
      x.build(10, 1 + i, 0);
    }
    Check.is(x.history(7, 0), 20);
    Check.is(x.history(7, 2), 4);
    Check.is(x.history(6, 0), 21);
    Check.is(x.history(0, 1), 6);
    Check.argument(() -> x.history(-1, 0));
    Check.argument(() -> x.history(8, 0));
    Check.argument(() -> x.history(0, -1));
    Check.argument(() -> x.history(0, 12));
    Check.promise(37);
    Check.argument(() -> x.last(-1));
    Check.argument(() -> x.last(12));
    // same, fetched, hang and stopped
    Buildkeeper y = small();
    y.cache(4);
    y.build(11, 1, 0);
    y.remove(11);
    y.step(10, 0, 7, 4);
    y.build(11, 1, 0);
    Check.is(y.last(4), 1);
    Check.is(y.last(6), 1);
    y.need(10, 50);
    y.build(11, 1, 0);
    Check.is(y.last(7), 1);
    Check.is(y.last(8), 1);
    y.mode(false, 0);
    y.build(11, 1, 0);
    Check.is(y.last(8), 0);
    Check.is(y.last(9), 1);
  }

  private static void promise38() {
    Check.promise(38);
    Buildkeeper x = small();
    Check.is(x.trace(), "-");
    x.build(11, 1, 0);
    Check.is(x.trace(), "10@0 11@4");
    x.build(11, 1, 0);
    Check.is(x.trace(), "-");
    x.mode(true, 3);
    x.fault(11, 2);
    x.remove(11);
    x.build(11, 1, 0);
    Check.is(x.trace(), "11@0 11@2 11@4");
  }

  private static void promise40() {
    Check.promise(40);
    Buildkeeper x = small();
    x.cache(2);
    x.fault(10, 1);
    x.mode(true, 1);
    long before = x.digest();
    int[] due = {0, 0, 10, 2, 0, 0, 0, 0, 0, 0, 0, 2};
    for (int what = 2; what <= 11; what++) {
      Check.is(x.would(11, 1, what), due[what]);
    }
    Check.is(x.digest(), before);
    Check.is(x.cached(3), 0);
    Check.is(x.ofStep(10, 5), 1);
    x.build(11, 1, 0);
    Check.is(x.would(19, 6, 2), 0);
    Check.is(x.would(19, 6, 5), 1);
    x.remove(11);
    Check.is(x.would(11, 1, 6), 1);
    Check.is(x.text(11), "?");
    Check.is(x.cached(2), 0);
    Check.index(() -> x.would(-1, 0, 2));
    Check.index(() -> x.would(100, 1, 2));
    Check.argument(() -> x.would(1, 0, 2));
    Check.argument(() -> x.would(11, 7, 2));
    Check.argument(() -> x.would(11, 1, 1));
    Check.argument(() -> x.would(11, 1, 12));
    Check.state(() -> x.would(1, 1, 2));
    x.step(30, 0, 0, 1);
    x.need(30, 31);
    x.second(30, 31);
    Check.is(x.would(11, 1, 2), REFUSED);
    Check.is(x.house(5), 1);
  }

  private static void promise41() {
    Check.promise(41);
    Buildkeeper x = small();
    Check.is(x.wouldDo(11, 0), 10);
    Check.is(x.wouldDo(11, 1), 11);
    Check.is(x.wouldDo(11, 2), NONE);
    Check.is(x.wouldDo(11, Integer.MAX_VALUE), NONE);
    Check.is(x.text(10), "?");
    x.build(10, 1, 0);
    Check.is(x.wouldDo(11, 0), 11);
    Check.is(x.wouldDo(19, 0), NONE);
    x.fault(11, 1);
    Check.is(x.wouldDo(11, 0), NONE);
    Check.is(x.ofStep(11, 5), 1);
    // the same, too
    x.step(10, 0, 1, 1);
    Check.is(x.wouldDo(19, 0), 10);
    Check.index(() -> x.wouldDo(-1, -1));
    Check.index(() -> x.wouldDo(100, 0));
    Check.argument(() -> x.wouldDo(1, -1));
    Check.state(() -> x.wouldDo(1, 0));
    x.step(30, 0, 0, 1);
    x.need(30, 31);
    x.second(30, 31);
    Check.is(x.wouldDo(11, 0), REFUSED);
    Check.is(x.house(5), 1);
  }
}
