/** Promises 1 to 4 and 19 to 22: sources, and what a name is and has. */
public final class NamesTest {
  private static final int NONE = -1;

  public static void main(String[] args) {
    promise1();
    promise2();
    promise3();
    promise4();
    promise19();
    promise20();
    promise21();
    promise22();
    theFirstName();
    Check.end();
  }

  private static void promise1() {
    Check.promise(1);
    Buildkeeper x = new Buildkeeper();
    for (int what = 0; what <= 7; what++) {
      Check.is(x.house(what), 0);
    }
    Check.is(x.house(8), 1);
    Check.is(x.text(0), "?");
    Check.is(x.ofName(99, 0), 0);
    x.put(1, 1);
    Check.is(new Buildkeeper().house(0), 0);
  }

  private static void promise2() {
    Check.promise(2);
    Buildkeeper x = new Buildkeeper();
    Check.is(x.put(0, 0), 1);
    Check.is(x.put(99, 99), 1);
    for (int i = 2; i <= 8; i++) {
      Check.is(x.put(0, i), i);
    }
    Check.is(x.text(0), "0 2 3 4 5 6 7 8");
    Check.state(() -> x.put(0, 1));
    Check.is(x.text(0), "0 2 3 4 5 6 7 8");
    Check.index(() -> x.put(-1, 0));
    Check.index(() -> x.put(100, 100));
    Check.argument(() -> x.put(0, -1));
    Check.argument(() -> x.put(0, 100));
    x.step(10, 0, 0, 1);
    x.second(10, 11);
    Check.state(() -> x.put(10, 1));
    Check.state(() -> x.put(11, 1));
    Check.argument(() -> x.put(10, 100));
    Check.is(x.house(0), 2);
    // the product of a pattern becomes a source; what was kept of it is gone
    x.pattern(1, 0, 0, 0, 1);
    x.put(20, 7);
    x.build(21, 1, 0);
    x.fault(21, 3);
    Check.is(x.text(21), "7");
    Check.is(x.put(21, 9), 1);
    Check.is(x.text(21), "9");
    x.drop(21);
    Check.is(x.text(21), "?");
    Check.is(x.ofName(21, 0), 3);
    Check.is(x.ofStep(21, 5), 0);
    Check.is(x.ofStep(21, 6), 0);
    Check.is(x.ofStep(21, 8), NONE);
  }

  private static void promise3() {
    Check.promise(3);
    Buildkeeper x = new Buildkeeper();
    x.put(5, 1);
    x.put(5, 2);
    Check.is(x.wipe(5), 2);
    Check.is(x.text(5), "-");
    Check.is(x.wipe(5), 0);
    Check.is(x.ofName(5, 0), 1);
    Check.is(x.put(5, 3), 1);
    Check.index(() -> x.wipe(-1));
    Check.index(() -> x.wipe(100));
    Check.state(() -> x.wipe(6));
    x.step(6, 0, 0, 1);
    Check.state(() -> x.wipe(6));
  }

  private static void promise4() {
    Check.promise(4);
    Buildkeeper x = new Buildkeeper();
    x.put(5, 1);
    x.put(6, 1);
    Check.is(x.drop(5), 1);
    Check.is(x.text(5), "?");
    Check.is(x.ofName(5, 0), 0);
    Check.state(() -> x.drop(5));
    Check.is(x.drop(6), 0);
    Check.index(() -> x.drop(-1));
    Check.index(() -> x.drop(100));
    Check.is(x.put(5, 8), 1);
  }

  private static void promise19() {
    Check.promise(19);
    Buildkeeper x = new Buildkeeper();
    x.put(1, 4);
    x.put(1, 5);
    x.step(10, 0, 0, 2);
    x.second(10, 19);
    x.need(10, 1);
    x.step(20, 6, 0, 2);
    x.second(20, 29);
    x.need(20, 19);
    x.need(20, 1);
    x.pattern(3, 1, 2, 0, 4);
    x.pattern(4, 3, 0, 0, 4);
    Check.is(x.ofName(1, 0), 1);
    Check.is(x.ofName(10, 0), 2);
    Check.is(x.ofName(19, 0), 2);
    Check.is(x.ofName(3, 0), 3);
    Check.is(x.ofName(4, 0), 3);
    Check.is(x.ofName(2, 0), 0);
    Check.is(x.ofName(14, 0), 0);
    Check.is(x.ofName(1, 1), 2);
    Check.is(x.ofName(10, 1), NONE);
    Check.is(x.ofName(20, 1), 0);
    Check.is(x.ofName(29, 1), 0);
    Check.is(x.ofName(2, 1), NONE);
    Check.is(x.ofName(1, 2), NONE);
    Check.is(x.ofName(19, 2), 10);
    Check.is(x.ofName(4, 2), 4);
    Check.is(x.ofName(1, 3), 2);
    Check.is(x.ofName(19, 3), 1);
    Check.is(x.ofName(3, 3), 0);
    Check.is(x.ofName(4, 4), 2);
    Check.is(x.ofName(29, 4), 2);
    Check.is(x.ofName(1, 4), 0);
    Check.index(() -> x.ofName(-1, 0));
    Check.index(() -> x.ofName(100, 6));
    Check.argument(() -> x.ofName(0, -1));
    Check.argument(() -> x.ofName(0, 6));
    marks(x);
  }

  private static void marks(Buildkeeper x) {
    Check.is(x.ofName(10, 5), 1);
    Check.is(x.ofName(19, 5), 1);
    Check.is(x.ofName(20, 5), 1);
    Check.is(x.ofName(1, 5), 0);
    x.build(20, 1, 0);
    Check.is(x.ofName(10, 5), 0);
    Check.is(x.ofName(20, 5), 0);
    Check.is(x.ofName(4, 5), 1);
    x.alter(19, 7);
    Check.is(x.ofName(20, 5), 1);
    x.alter(19, 2);
    Check.is(x.ofName(20, 5), 0);
    // by what a record has found, too
    x.put(40, 41);
    x.put(42, 6);
    x.step(41, 0, 0, 1);
    x.need(41, 42);
    x.step(45, 4, 0, 1);
    x.need(45, 40);
    x.build(45, 1, 0);
    Check.is(x.ofName(45, 5), 0);
    x.put(42, 7);
    Check.is(x.ofName(41, 5), 1);
    Check.is(x.ofName(45, 5), 1);
    // from need to need, whatever their order
    x.unpattern(3);
    x.unpattern(4);
    for (int head = 70; head < 76; head++) {
      x.step(head, 0, 0, 1);
      x.need(head, head + 1);
    }
    x.put(76, 1);
    x.build(70, 1, 0);
    Check.is(x.ofName(70, 5), 0);
    x.remove(75);
    Check.is(x.ofName(70, 5), 1);
    Check.is(x.ofName(71, 5), 1);
    Check.is(x.ofName(75, 5), 1);
    // a name that is read has no content
    x.step(50, 3, 0, 1);
    x.need(50, 51);
    Check.is(x.ofName(50, 5), 1);
    x.step(60, 6, 0, 1);
    x.need(60, 61);
    Check.is(x.ofName(60, 5), 0);
  }

  private static void promise20() {
    Check.promise(20);
    Buildkeeper x = new Buildkeeper();
    x.put(0, 4);
    x.put(0, 9);
    Check.is(x.number(0, 0), 4);
    Check.is(x.number(0, 1), 9);
    Check.index(() -> x.number(0, 2));
    Check.index(() -> x.number(0, -1));
    Check.index(() -> x.number(-1, 0));
    Check.index(() -> x.number(100, 0));
    Check.index(() -> x.number(1, 0));
    x.step(10, 2, 0, 1);
    x.need(10, 0);
    Check.index(() -> x.number(10, 0));
    x.build(10, 1, 0);
    Check.is(x.number(10, 0), 2);
    Check.index(() -> x.number(10, Integer.MAX_VALUE));
  }

  private static void promise21() {
    Check.promise(21);
    Buildkeeper x = new Buildkeeper();
    Check.is(x.sum(0), NONE);
    x.put(0, 0);
    Check.is(x.sum(0), 1);
    x.put(0, 99);
    Check.is(x.sum(0), 201);
    x.wipe(0);
    Check.is(x.sum(0), 0);
    for (int i = 0; i < 8; i++) {
      x.put(0, 99);
    }
    long due = 0;
    for (int i = 0; i < 8; i++) {
      due = due * 101 + 100;
    }
    Check.is(x.sum(0), due);
    x.step(1, 6, 0, 1);
    Check.is(x.sum(1), 0);
    x.step(2, 0, 0, 1);
    Check.is(x.sum(2), NONE);
    Check.index(() -> x.sum(-1));
    Check.index(() -> x.sum(100));
  }

  /** 0 is a name like all others: as a head, a second product, a need, and as what is found. */
  private static void theFirstName() {
    Check.promise(19);
    Buildkeeper x = new Buildkeeper();
    x.put(1, 0);
    x.put(1, 0);
    x.step(10, 0, 0, 2);
    x.need(10, 1);
    x.second(10, 0);
    x.step(20, 4, 0, 3);
    x.need(20, 1);
    x.step(30, 0, 0, 1);
    x.need(30, 0);
    x.need(30, 20);
    Check.is(x.need(10, 30), -9);
    Check.is(x.ways(30, 0), 1);
    Check.is(x.way(30, 1, 0), "30>0>1");
    Check.is(x.longest(30), 4);
    Check.is(x.scratch(0), "2");
    Check.is(x.build(30, 1, 0), 6);
    Check.is(x.text(30), "2 2 2");
    x.alter(0, 3);
    x.build(30, 1, 0);
    Check.is(x.ofBuild(10, 1), 6);
    Check.is(x.ofBuild(10, 2), 0);
    Check.is(x.isSound(), true);
    Check.is(x.second(10, 9), 0);
    Check.is(x.text(0), "?");
    Check.is(x.second(10, 0), 9);
    x.build(10, 1, 0);
    Check.is(x.text(0), "2");
    x.step(10, 6, 0, 1);
    Check.is(x.text(0), "-");
    x.step(10, 0, 0, 1);
    Check.is(x.text(0), "?");
    x.strike(10);
    x.step(0, 0, 0, 5);
    x.need(0, 1);
    Check.is(x.need(0, 30), -9);
    x.fault(0, 1);
    Check.is(x.build(30, 2, 0), 5);
    Check.is(x.ofBuild(20, 1), 11);
    Check.is(x.ofBuild(20, 2), 0);
    Check.is(x.plain(30, 0), 0);
    Check.is(x.near(50, 1), 30);
    Check.is(x.near(5, 0), 0);
    x.need(0, 8);
    x.second(0, 8);
    Check.is(x.ring(8), "8>8");
    x.second(0, 0);
    x.pattern(0, 8, 0, 0, 1);
    x.pattern(9, 0, 2, 0, 1);
    Check.is(x.unpattern(0), 1);
  }

  private static void promise22() {
    Check.promise(22);
    Buildkeeper x = new Buildkeeper();
    Check.is(x.text(7), "?");
    x.put(7, 0);
    Check.is(x.text(7), "0");
    x.put(7, 10);
    Check.is(x.text(7), "0 10");
    x.wipe(7);
    Check.is(x.text(7), "-");
    x.step(8, 6, 0, 1);
    x.second(8, 9);
    Check.is(x.text(8), "-");
    Check.is(x.text(9), "-");
    Check.index(() -> x.text(-1));
    Check.index(() -> x.text(100));
    // what is kept of a step by a pattern counts again as it is one again
    x.put(21, 5);
    x.pattern(2, 1, 0, 0, 1);
    x.build(22, 1, 0);
    Check.is(x.text(22), "5");
    x.unpattern(2);
    Check.is(x.text(22), "?");
    x.pattern(2, 1, 0, 0, 3);
    Check.is(x.text(22), "5");
    Check.is(x.ofStep(22, 6), 1);
    Check.is(x.build(22, 1, 0), 0);
    x.drop(21);
    Check.is(x.text(22), "?");
    x.put(21, 5);
    Check.is(x.text(22), "5");
  }
}
