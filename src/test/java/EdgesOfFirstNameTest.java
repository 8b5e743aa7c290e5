/** "NAMES are 0 to 99": the NAME 0 as all that a NAME can be, and the ENDING 0; and 99 beside it. */
public final class EdgesOfFirstNameTest {
  private static final int NONE = -1;
  private static final int REFUSED = -9;
  private static final int DONE = 3;
  private static final int SAME = 4;
  private static final int FAILED = 5;
  private static final int HANGS = 6;

  public static void main(String[] args) {
    asAHead(0);
    asAHead(99);
    asASecondProduct(0);
    asASecondProduct(99);
    asOneByAPattern();
    theEndingZero();
    inAWay(0);
    inAWay(99);
    inARing(0);
    inARing(99);
    inARingOfWaiting(0);
    inARingOfWaiting(99);
    asTheHeaviest(0);
    asWhatIsMissing(0);
    asWhatIsMissing(99);
    marked(0);
    marked(99);
    notWanted();
    digests(0);
    digests(99);
    Check.end();
  }

  private static void tell(Buildkeeper x, int head, int kind, int length, int... needs) {
    x.step(head, kind, 0, length);
    for (int need : needs) {
      x.need(head, need);
    }
  }

  private static void became(Buildkeeper x, int head, int state, int reason, int name) {
    Check.is(x.ofBuild(head, 0), state);
    Check.is(x.ofBuild(head, 1), reason);
    Check.is(x.ofBuild(head, 2), name);
  }

  private static void asAHead(int name) {
    Check.promise(5);
    Buildkeeper x = new Buildkeeper();
    Check.is(x.step(name, 0, 0, 2), 1);
    Check.is(x.ofName(name, 0), 2);
    Check.is(x.ofName(name, 2), name);
    Check.is(x.text(name), "?");
    Check.is(x.house(3), 0);
    Scenes.put(x, 50, 7, 8);
    Check.is(x.need(name, 50), 1);
    Check.is(x.scratch(name), "7 8");
    Check.is(x.longest(name), 2);
    Check.is(x.plain(name, 0), name);
    Check.is(x.users(50, 0), name);
    Check.is(x.between(name, name), 1);
    Check.is(x.wouldDo(name, 0), name);
    Check.is(x.wouldDo(name, 1), NONE);
    Check.is(x.would(name, 1, 3), 1);
    Check.is(x.house(3), 0);
    Check.is(x.build(name, 1, 9), 2 + name * 9 % 4);
    Check.is(x.text(name), "7 8");
    Check.is(x.sum(name), 8 * 101 + 9);
    Check.is(x.number(name, 1), 8);
    Check.is(x.ofName(name, 1), 2);
    Check.is(x.house(3), 1);
    Check.is(x.readOf(name, 0), 50);
    Check.is(x.trace(), name + "@0");
    Check.is(x.last(0), name);
    became(x, name, DONE, 1, NONE);
    Check.is(x.alter(name, 3), 2);
    x.build(name, 1, 0);
    became(x, name, DONE, 6, name);
    Check.is(x.remove(name), 2);
    x.build(name, 1, 0);
    became(x, name, DONE, 5, name);
    Check.is(x.fault(name, 1), 0);
    x.remove(name);
    x.build(name, 1, 0);
    became(x, name, FAILED, 7, NONE);
    x.step(name, 6, 0, 1);
    Check.is(x.text(name), "-");
    Check.is(x.strike(name), 0);
    Check.is(x.ofName(name, 0), 0);
  }

  private static void asASecondProduct(int name) {
    Check.promise(6);
    Buildkeeper x = new Buildkeeper();
    Scenes.put(x, 50, 7, 8);
    tell(x, 40, 0, 2, 50);
    Check.is(x.second(40, name), NONE);
    Check.is(x.ofStep(40, 3), name);
    Check.is(x.ofName(name, 2), 40);
    x.build(name, 1, 0);
    Check.is(x.text(name), "2");
    Check.is(x.house(3), 2);
    x.remove(name);
    x.build(40, 1, 0);
    became(x, 40, DONE, 5, name);
    x.alter(name, 3);
    x.build(40, 1, 0);
    became(x, 40, DONE, 6, name);
    x.step(40, 0, 1, 2);
    x.alter(name, 3);
    x.build(40, 1, 0);
    became(x, 40, DONE, 2, NONE);
    x.step(40, 0, 2, 2);
    x.build(40, 1, 0);
    became(x, 40, SAME, 2, NONE);
    Check.is(x.need(40, name), REFUSED);
    // not one any more: it is nothing, and not there as it is one by a pattern at once
    Check.is(x.second(40, 51), name);
    Check.is(x.ofName(name, 0), 0);
    Check.is(x.ofName(name, 2), NONE);
    int ending = name % 10;
    x.put(name - ending + 5, 1);
    x.pattern(ending, 5, 0, 0, 1);
    Check.is(x.ofName(name, 0), 3);
    Check.is(x.text(name), "?");
    Check.is(x.ofStep(name, 8), NONE);
    // kept as one by a pattern, and gone as it becomes a second product
    x.build(name, 1, 0);
    x.fault(name, 1);
    Check.is(x.text(name), "1");
    Check.is(x.second(40, name), 51);
    Check.is(x.text(name), "?");
    x.second(40, 40);
    Check.is(x.ofName(name, 0), 3);
    Check.is(x.text(name), "?");
    Check.is(x.ofStep(name, 5), 0);
    // the same by striking, and by a group
    x.unpattern(ending);
    x.second(40, name);
    x.build(40, 1, 0);
    Check.is(x.text(name), "2");
    x.step(40, 6, 0, 1);
    Check.is(x.text(name), "-");
    x.step(40, 0, 0, 1);
    Check.is(x.text(name), "?");
    x.build(40, 1, 0);
    x.strike(40);
    x.pattern(ending, 5, 0, 0, 1);
    Check.is(x.text(name), "?");
  }

  private static void asOneByAPattern() {
    Check.promise(10);
    Buildkeeper x = new Buildkeeper();
    x.put(9, 4);
    x.pattern(0, 9, 2, 0, 3);
    Check.is(x.ofName(0, 0), 3);
    // without a record at first
    Check.is(x.ofStep(0, 8), NONE);
    Check.is(x.readOf(0, 0), NONE);
    Check.is(x.readSum(0, 0), NONE);
    Check.is(x.ofName(0, 5), 1);
    Check.is(x.build(0, 1, 0), 3);
    became(x, 0, DONE, 1, NONE);
    Check.is(x.text(0), "1");
    Check.is(x.unpattern(0), 0);
    Check.is(x.ofName(0, 0), 0);
    Check.is(x.text(0), "?");
    x.pattern(0, 9, 2, 0, 3);
    x.drop(9);
    Check.is(x.ofName(0, 0), 0);
  }

  /** As the ENDING from, and in the middle of what patterns lead to. */
  private static void theEndingZero() {
    Check.promise(10);
    Buildkeeper x = new Buildkeeper();
    Check.is(x.pattern(5, 0, 0, 0, 1), 1);
    Check.is(x.pattern(0, 5, 0, 0, 1), REFUSED);
    Check.is(x.pattern(0, 7, 0, 0, 1), 2);
    Check.is(x.pattern(7, 5, 0, 0, 1), REFUSED);
    Check.is(x.pattern(7, 0, 0, 0, 1), REFUSED);
    Check.is(x.pattern(5, 0, 0, 0, 2), 2);
    Check.is(x.pattern(6, 0, 0, 0, 2), 3);
    Check.is(x.pattern(4, 0, 0, 0, 2), 4);
    Check.is(x.pattern(4, 0, 1, 0, 2), 4);
    x.put(7, 1);
    Check.is(x.ofName(5, 0), 3);
    Check.is(x.ofName(0, 0), 3);
    Check.is(x.unpattern(5), 3);
    Check.is(x.ofName(5, 0), 0);
    Check.is(x.unpattern(5), REFUSED);
    Check.is(x.unpattern(0), 2);
    Check.is(x.unpattern(9), REFUSED);
    Check.is(x.pattern(9, 8, 0, 0, 1), 3);
    Check.is(x.pattern(8, 9, 0, 0, 1), REFUSED);
    Check.is(x.unpattern(9), 2);
  }

  private static void inAWay(int name) {
    Check.promise(32);
    Buildkeeper x = new Buildkeeper();
    x.put(50, 1);
    tell(x, name, 0, 9, 50);
    tell(x, 40, 0, 2, name);
    tell(x, 41, 0, 2, 60, 40, name);
    Check.is(x.ways(41, 50), 2);
    Check.is(x.ways(41, name), 2);
    Check.is(x.ways(name, 50), 1);
    Check.is(x.ways(name, name), 0);
    Check.is(x.way(41, 50, 0), "41>40>" + name + ">50");
    Check.is(x.way(41, 50, 1), "41>" + name + ">50");
    Check.is(x.way(41, name, 1), "41>" + name);
    Check.is(x.way(name, 50, 0), name + ">50");
    Check.is(x.reaches(41, name), true);
    Check.is(x.reaches(name, 41), false);
    Check.is(x.longest(41), 13);
    Check.is(x.longest(name), 9);
    Check.is(x.ofName(41, 4), 4);
    Check.is(x.ofName(name, 4), 1);
    Check.is(x.ofName(name, 3), 2);
    Check.is(x.plain(41, 0), name);
    Check.is(x.plain(41, 2), 41);
    Check.is(x.need(name, 41), REFUSED);
    Check.is(x.scratch(40), "1");
  }

  private static void inARing(int name) {
    Check.promise(33);
    Buildkeeper x = new Buildkeeper();
    tell(x, name, 0, 1);
    Check.is(x.build(name, 1, 0), 1);
    // a ring elsewhere, told beside a step of that name
    tell(x, 40, 0, 1, 41);
    x.second(40, 41);
    Check.is(x.build(name, 1, 0), REFUSED);
    Check.is(x.ring(name), "");
    x.second(40, 40);
    Check.is(x.build(name, 1, 0), 0);
    // through it as a head
    x.need(name, 42);
    x.need(40, name);
    x.second(40, 42);
    Check.is(x.ring(name), name + ">42>" + name);
    Check.is(x.ring(42), "42>" + name + ">42");
    Check.is(x.ring(40), "");
    Check.is(x.longest(50), REFUSED);
    Check.is(x.scratch(name), "?");
    Check.is(x.isSound(), true);
    // and as a second product
    Buildkeeper y = new Buildkeeper();
    tell(y, 40, 0, 1, name);
    y.second(40, name);
    Check.is(y.ring(name), name + ">" + name);
    Check.is(y.reaches(name, name), true);
    Check.is(y.ofName(name, 4), 0);
    Check.is(y.ofName(40, 4), 1);
  }

  private static void inARingOfWaiting(int name) {
    Check.promise(18);
    // by a group that has it as its first need, and finds nothing itself
    Buildkeeper x = new Buildkeeper();
    x.put(50, 40);
    tell(x, name, 4, 1, 50);
    tell(x, 40, 6, 1, name, 50);
    tell(x, 41, 0, 1, name);
    x.build(41, 1, 0);
    became(x, name, FAILED, 10, 40);
    became(x, 40, FAILED, 10, name);
    became(x, 41, HANGS, 11, name);
    // by one that finds it
    Buildkeeper y = new Buildkeeper();
    y.put(50, name);
    tell(y, 40, 4, 1, 50);
    tell(y, name, 0, 1, 40);
    y.build(40, 1, 0);
    became(y, 40, FAILED, 10, name);
    became(y, name, FAILED, 10, 40);
    Check.is(y.scratch(40) + y.scratch(name), "??");
    // by itself
    Buildkeeper z = new Buildkeeper();
    z.put(50, name);
    tell(z, name, 4, 1, 50);
    z.build(name, 1, 0);
    became(z, name, FAILED, 10, name);
    Check.is(z.isSound(), true);
  }

  private static void asTheHeaviest(int name) {
    Check.promise(18);
    Buildkeeper x = new Buildkeeper();
    tell(x, name, 0, 3);
    tell(x, 40, 0, 2);
    tell(x, 41, 0, 1);
    tell(x, 42, 6, 1, 41, 40, name);
    x.build(42, 1, 0);
    Check.is(x.trace(), name + "@0 40@3 41@5");
    // it is heavy by what needs it
    Buildkeeper y = new Buildkeeper();
    tell(y, name, 0, 1);
    tell(y, 40, 0, 2);
    tell(y, 41, 0, 9, 40, name);
    tell(y, 43, 0, 4, 40);
    tell(y, 42, 6, 1, 43, 41);
    y.build(42, 1, 0);
    Check.is(y.trace(), "40@0 " + name + "@2 41@3 43@12");
    tell(y, 44, 0, 9);
    y.step(name, 0, 1, 1);
    y.need(42, 44);
    y.build(42, 1, 0);
    Check.is(y.trace(), name + "@0 44@1");
    // the same weight as that of another one
    Buildkeeper z = new Buildkeeper();
    tell(z, name, 0, 2);
    tell(z, 40, 0, 2);
    tell(z, 42, 6, 1, 40, name);
    z.build(42, 1, 0);
    Check.is(z.trace(), name + "@0 40@2");
    Check.is(z.ofStep(40, 9), 2);
    // as a second product that is needed
    Buildkeeper w = new Buildkeeper();
    tell(w, 40, 0, 1);
    w.second(40, name);
    tell(w, 30, 0, 2);
    tell(w, 41, 0, 9, 30, name);
    tell(w, 31, 0, 9);
    tell(w, 42, 6, 1, 41, 31);
    w.build(42, 1, 0);
    Check.is(w.trace(), "30@0 40@2 31@3 41@12");
  }

  private static void asWhatIsMissing(int name) {
    Check.promise(18);
    Buildkeeper x = new Buildkeeper();
    tell(x, 40, 0, 1, name);
    x.build(40, 1, 0);
    became(x, 40, FAILED, 9, name);
    x.put(50, name);
    tell(x, 41, 4, 1, 50);
    x.build(41, 1, 0);
    became(x, 41, FAILED, 9, name);
    // it is there, and bad
    tell(x, name, 0, 1, 60);
    x.build(40, 1, 0);
    became(x, 40, HANGS, 11, name);
    x.build(41, 1, 0);
    became(x, 41, HANGS, 11, name);
    x.unneed(name, 0);
    x.build(41, 1, 0);
    became(x, 41, DONE, 1, NONE);
    // another name that is read, and another sum of it
    x.need(41, name);
    x.build(41, 1, 0);
    became(x, 41, SAME, 3, name);
    x.build(40, 1, 0);
    x.put(60, 1);
    x.need(name, 60);
    x.build(40, 1, 0);
    became(x, 40, DONE, 4, name);
    x.unneed(40, 0);
    x.build(40, 1, 0);
    became(x, 40, DONE, 3, name);
  }

  private static void marked(int name) {
    Check.promise(19);
    Buildkeeper x = new Buildkeeper();
    x.put(51, 5);
    x.put(50, 1);
    tell(x, name, 0, 1, 50);
    tell(x, 40, 0, 1, 51, name);
    x.put(60, name);
    tell(x, 41, 4, 1, 60);
    for (int product : new int[] {name, 40, 41}) {
      Check.is(x.ofName(product, 5), 1);
      x.build(product, 1, 0);
      Check.is(x.ofName(product, 5), 0);
    }
    // by its second need alone, and by what its record has found
    x.step(name, 0, 1, 1);
    for (int product : new int[] {name, 40, 41}) {
      Check.is(x.ofName(product, 5), 1);
    }
    Check.is(x.ofName(50, 5), 0);
    // a ring of its own needs is marked
    x.step(name, 6, 0, 1);
    Check.is(x.ofName(name, 5), 0);
    x.need(name, 41);
    Check.is(x.ofName(name, 5), 1);
  }

  /** A step of the NAME 0 that the goal does not need is not wanted, nor what it needs. */
  private static void notWanted() {
    Check.promise(36);
    Buildkeeper x = new Buildkeeper();
    tell(x, 1, 0, 1);
    tell(x, 0, 0, 1, 1);
    tell(x, 40, 0, 1);
    tell(x, 41, 0, 1, 40);
    x.build(41, 1, 0);
    Check.is(x.last(11), 2);
    Check.is(x.ofBuild(0, 0) + x.ofBuild(1, 0), 0);
    // after a build in which it waited for others
    x.put(50, 0);
    tell(x, 2, 4, 1, 50);
    x.need(0, 2);
    x.build(0, 1, 0);
    became(x, 0, FAILED, 10, 2);
    x.build(41, 1, 0);
    Check.is(x.last(11), 2);
  }

  /** The checksum takes each NAME, the first and the last one, too. */
  private static void digests(int name) {
    Check.promise(50);
    Buildkeeper x = new Buildkeeper();
    Check.is(x.digest(), added(x, NONE));
    x.put(name, 5);
    Check.is(x.digest(), added(x, name));
    x.drop(name);
    tell(x, name, 2, 4);
    Check.is(x.digest(), added(x, name));
    x.build(name, 1, 0);
    Check.is(x.digest(), added(x, name));
    x.need(name, 50);
    Check.is(x.digest(), added(x, name));
    x.put(50, 1);
    x.build(name, 1, 1);
    x.drop(50);
    Check.is(x.digest(), added(x, name));
  }

  private static long d;

  private static void add(long v) {
    d = d * 31 + v;
  }

  /** The checksum of a keeper in which there is that NAME alone, if any. */
  private static long added(Buildkeeper x, int name) {
    d = 5901;
    for (int what = 0; what <= 8; what++) {
      add(x.house(what));
    }
    if (name >= 0) {
      add(name);
      for (int what = 0; what <= 5; what++) {
        add(x.ofName(name, what));
      }
      add(x.sum(name));
      if (x.ofName(name, 0) == 2) {
        addStep(x, name);
      }
    }
    for (int what = 0; what <= 11; what++) {
      add(x.last(what));
    }
    for (int what = 0; what <= 4; what++) {
      add(x.cached(what));
    }
    for (int what = 2; what <= 5; what++) {
      add(x.history(1, what));
    }
    add(1);
    return d;
  }

  private static void addStep(Buildkeeper x, int head) {
    add(head);
    for (int what = 0; what <= 9; what++) {
      add(x.ofStep(head, what));
    }
    for (int place = 0; place < x.ofStep(head, 4); place++) {
      add(x.needOf(head, place));
    }
    for (int what = 0; what <= 6; what++) {
      add(x.ofBuild(head, what));
    }
    for (int place = 0; place < x.ofStep(head, 8); place++) {
      add(x.readOf(head, place));
      add(x.readSum(head, place));
    }
  }
}
