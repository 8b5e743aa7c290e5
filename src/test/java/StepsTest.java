/** Promises 5 to 13 and 23 to 29: steps and patterns, and what is asked of them. */
public final class StepsTest {
  private static final int NONE = -1;
  private static final int REFUSED = -9;

  public static void main(String[] args) {
    promise5();
    promise6();
    promise7();
    promise8();
    promise9();
    promise10();
    promise11();
    promise12();
    promise13();
    promise23();
    promise24();
    promise25And26();
    promise27();
    promise28();
    promise29();
    Check.end();
  }

  /** 1 has 5 and 3; 10 joins 1 and counts it in 19; 11 needs 10 and 19. */
  private static Buildkeeper small() {
    Buildkeeper x = new Buildkeeper();
    x.put(1, 5);
    x.put(1, 3);
    x.step(10, 0, 0, 4);
    x.second(10, 19);
    x.need(10, 1);
    x.step(11, 1, 0, 2);
    x.need(11, 10);
    x.need(11, 19);
    return x;
  }

  private static void promise5() {
    Check.promise(5);
    Buildkeeper x = new Buildkeeper();
    Check.is(x.step(0, 0, 0, 1), 1);
    Check.is(x.step(99, 6, 99, 9), 2);
    Check.is(x.step(0, 5, 7, 3), 2);
    Check.is(x.ofStep(0, 0), 5);
    Check.is(x.ofStep(0, 1), 7);
    Check.is(x.ofStep(0, 2), 3);
    Check.index(() -> x.step(-1, 9, 0, 1));
    Check.index(() -> x.step(100, 0, 0, 1));
    Check.argument(() -> x.step(1, -1, 0, 1));
    Check.argument(() -> x.step(1, 7, 0, 1));
    Check.argument(() -> x.step(1, 0, -1, 1));
    Check.argument(() -> x.step(1, 0, 100, 1));
    Check.argument(() -> x.step(1, 0, 0, 0));
    Check.argument(() -> x.step(1, 0, 0, 10));
    x.put(1, 1);
    Check.argument(() -> x.step(1, 0, 0, 10));
    Check.state(() -> x.step(1, 0, 0, 1));
    x.second(0, 2);
    Check.state(() -> x.step(2, 0, 0, 1));
    for (int i = 0; i < 22; i++) {
      Check.is(x.step(10 + i, 0, 0, 1), 3 + i);
    }
    Check.state(() -> x.step(50, 0, 0, 1));
    Check.is(x.step(99, 0, 0, 1), 24);
    rulesAreToldAnew();
    stepsInPlaceOfPatterns();
  }

  private static void rulesAreToldAnew() {
    Buildkeeper x = small();
    x.build(11, 1, 0);
    x.step(10, 2, 9, 7);
    Check.is(x.ofStep(10, 3), 19);
    Check.is(x.ofStep(10, 4), 1);
    Check.is(x.text(10), "5 3");
    Check.is(x.ofStep(10, 6), 1);
    x.fault(10, 2);
    // what is kept is gone as it becomes a group, with its second product
    x.step(10, 6, 0, 1);
    Check.is(x.text(10), "-");
    x.step(10, 0, 0, 1);
    Check.is(x.text(10), "?");
    Check.is(x.text(19), "?");
    Check.is(x.ofStep(10, 5), 0);
    Check.is(x.ofStep(10, 6), 0);
    Check.is(x.ofStep(10, 8), NONE);
    Check.is(x.ofStep(10, 9), NONE);
  }

  private static void stepsInPlaceOfPatterns() {
    Buildkeeper x = new Buildkeeper();
    x.put(1, 5);
    x.pattern(2, 1, 0, 0, 1);
    x.build(2, 1, 0);
    Check.is(x.text(2), "5");
    Check.is(x.step(2, 0, 0, 1), 1);
    Check.is(x.text(2), "?");
    Check.is(x.ofStep(2, 4), 0);
    Check.is(x.ofStep(2, 6), 0);
    x.strike(2);
    Check.is(x.ofName(2, 0), 3);
    Check.is(x.ofStep(2, 6), 0);
  }

  private static void promise6() {
    Check.promise(6);
    Buildkeeper x = new Buildkeeper();
    x.step(10, 0, 0, 1);
    x.step(20, 0, 0, 1);
    x.put(1, 1);
    Check.is(x.second(10, 19), NONE);
    Check.is(x.second(10, 18), 19);
    Check.is(x.ofName(19, 0), 0);
    Check.is(x.second(10, 18), 18);
    Check.is(x.second(10, 10), 18);
    Check.is(x.second(10, 10), NONE);
    Check.is(x.ofStep(10, 3), NONE);
    Check.index(() -> x.second(-1, 0));
    Check.index(() -> x.second(100, 0));
    Check.index(() -> x.second(10, -1));
    Check.index(() -> x.second(0, 100));
    Check.state(() -> x.second(11, 12));
    Check.state(() -> x.second(10, 1));
    Check.state(() -> x.second(10, 20));
    x.second(20, 29);
    Check.state(() -> x.second(10, 29));
    // a second product that is not one any more is not there; the product itself stays
    Buildkeeper y = small();
    y.build(11, 1, 0);
    Check.is(y.second(10, 19), 19);
    Check.is(y.text(19), "2");
    y.second(10, 18);
    Check.is(y.text(19), "?");
    Check.is(y.text(18), "?");
    Check.is(y.text(10), "5 3");
    y.second(10, 19);
    Check.is(y.text(19), "?");
    y.build(10, 1, 0);
    Check.is(y.ofBuild(10, 1), 5);
    Check.is(y.ofBuild(10, 2), 19);
    // a pattern's product becomes a second one: what was kept of it is gone
    Buildkeeper z = small();
    z.pattern(2, 1, 0, 0, 1);
    z.build(2, 1, 0);
    z.fault(2, 4);
    z.second(11, 2);
    Check.is(z.text(2), "?");
    z.second(11, 11);
    Check.is(z.ofStep(2, 5), 0);
    Check.is(z.ofStep(2, 6), 0);
  }

  private static void promise7() {
    Check.promise(7);
    Buildkeeper x = new Buildkeeper();
    x.step(10, 0, 0, 1);
    for (int i = 1; i <= 6; i++) {
      Check.is(x.need(10, i), i);
    }
    Check.state(() -> x.need(10, 7));
    x.step(11, 0, 0, 1);
    Check.is(x.need(11, 10), 1);
    Check.state(() -> x.need(11, 10));
    Check.state(() -> x.need(12, 1));
    Check.index(() -> x.need(-1, 1));
    Check.index(() -> x.need(100, 1));
    Check.index(() -> x.need(12, -1));
    Check.index(() -> x.need(12, 100));
    Check.is(x.need(11, 11), REFUSED);
    x.second(11, 19);
    Check.is(x.need(11, 19), REFUSED);
    x.step(9, 0, 0, 1);
    x.need(9, 19);
    Check.is(x.need(11, 9), REFUSED);
    x.unneed(10, 0);
    Check.is(x.need(10, 9), REFUSED);
    Check.is(x.need(10, 11), REFUSED);
    Check.is(x.need(10, 1), 6);
    Check.state(() -> x.need(10, 9));
    Check.is(x.house(5), 5);
    // by a pattern, too
    x.pattern(5, 9, 0, 0, 1);
    Check.is(x.ofName(15, 0), 3);
    Check.is(x.need(11, 15), REFUSED);
  }

  private static void promise8() {
    Check.promise(8);
    Buildkeeper x = new Buildkeeper();
    x.step(10, 0, 0, 1);
    x.need(10, 3);
    x.need(10, 1);
    x.need(10, 2);
    Check.argument(() -> x.unneed(10, -1));
    Check.argument(() -> x.unneed(10, 3));
    Check.is(x.unneed(10, 1), 1);
    Check.is(x.needOf(10, 0), 3);
    Check.is(x.needOf(10, 1), 2);
    Check.is(x.unneed(10, 0), 3);
    Check.is(x.unneed(10, 0), 2);
    Check.argument(() -> x.unneed(10, 0));
    Check.state(() -> x.unneed(11, -1));
    Check.index(() -> x.unneed(-1, 0));
    Check.index(() -> x.unneed(100, 0));
    x.put(1, 1);
    x.pattern(2, 1, 0, 0, 1);
    Check.state(() -> x.unneed(2, 0));
  }

  private static void promise9() {
    Check.promise(9);
    Buildkeeper x = small();
    x.build(11, 1, 0);
    Check.is(x.strike(10), 1);
    Check.is(x.ofName(10, 0), 0);
    Check.is(x.ofName(19, 0), 0);
    Check.is(x.text(10), "?");
    Check.is(x.ofStep(11, 4), 2);
    Check.is(x.ofBuild(10, 0), 3);
    Check.state(() -> x.strike(10));
    Check.state(() -> x.strike(19));
    Check.index(() -> x.strike(-1));
    Check.index(() -> x.strike(100));
    x.step(10, 0, 0, 4);
    Check.is(x.ofStep(10, 3), NONE);
    Check.is(x.ofStep(10, 4), 0);
    Check.is(x.ofStep(10, 6), 0);
    x.second(10, 19);
    Check.is(x.text(19), "?");
    Check.is(x.strike(11), 1);
    Check.is(x.strike(10), 0);
  }

  private static void promise10() {
    Check.promise(10);
    Buildkeeper x = new Buildkeeper();
    Check.is(x.pattern(1, 2, 0, 0, 1), 1);
    Check.is(x.pattern(2, 3, 3, 99, 9), 2);
    Check.is(x.pattern(3, 1, 0, 0, 1), REFUSED);
    Check.is(x.pattern(3, 2, 0, 0, 1), REFUSED);
    Check.is(x.pattern(2, 1, 0, 0, 1), REFUSED);
    Check.is(x.pattern(1, 3, 1, 0, 2), 2);
    Check.is(x.pattern(4, 5, 0, 0, 1), 3);
    Check.is(x.pattern(9, 0, 0, 0, 1), 4);
    Check.state(() -> x.pattern(5, 4, 0, 0, 1));
    Check.is(x.pattern(9, 0, 2, 0, 5), 4);
    Check.is(x.house(2), 4);
    Check.index(() -> x.pattern(-1, 0, 0, 0, 1));
    Check.index(() -> x.pattern(10, 0, 0, 0, 1));
    Check.index(() -> x.pattern(0, -1, 9, 0, 1));
    Check.index(() -> x.pattern(0, 10, 0, 0, 1));
    Check.argument(() -> x.pattern(5, 5, 0, 0, 1));
    Check.argument(() -> x.pattern(5, 4, -1, 0, 1));
    Check.argument(() -> x.pattern(5, 4, 4, 0, 1));
    Check.argument(() -> x.pattern(5, 4, 0, -1, 1));
    Check.argument(() -> x.pattern(5, 4, 0, 100, 1));
    Check.argument(() -> x.pattern(5, 4, 0, 0, 0));
    Check.argument(() -> x.pattern(5, 4, 0, 0, 10));
    productsOfPatterns();
  }

  private static void productsOfPatterns() {
    Buildkeeper x = new Buildkeeper();
    x.put(74, 1);
    x.pattern(1, 2, 0, 0, 2);
    x.pattern(2, 3, 2, 0, 3);
    x.pattern(3, 4, 0, 0, 4);
    x.pattern(9, 1, 0, 0, 5);
    Check.is(x.ofName(71, 0), 3);
    Check.is(x.ofName(79, 0), 3);
    Check.is(x.ofName(61, 0), 0);
    Check.is(x.needOf(71, 0), 72);
    Check.is(x.ofStep(72, 0), 2);
    Check.is(x.ofStep(72, 2), 3);
    Check.is(x.build(79, 1, 0), 14);
    Check.is(x.text(79), "1");
    Check.is(x.way(79, 74, 0), "79>71>72>73>74");
    // a source or an own step stands in the way, and is the origin of what comes after it
    x.put(72, 8);
    Check.is(x.ofName(72, 0), 1);
    Check.is(x.way(79, 72, 0), "79>71>72");
    x.step(62, 0, 0, 1);
    x.second(62, 53);
    Check.is(x.ofName(61, 0), 3);
    Check.is(x.ofName(52, 0), 3);
    Check.is(x.ofName(59, 0), 3);
    x.second(62, 62);
    Check.is(x.ofName(59, 0), 0);
  }

  private static void promise11() {
    Check.promise(11);
    Buildkeeper x = new Buildkeeper();
    x.put(1, 1);
    x.pattern(2, 1, 0, 0, 1);
    x.pattern(3, 2, 0, 0, 1);
    Check.is(x.unpattern(1), REFUSED);
    Check.is(x.unpattern(2), 1);
    Check.is(x.ofName(2, 0), 0);
    Check.is(x.ofName(3, 0), 0);
    Check.is(x.unpattern(2), REFUSED);
    Check.is(x.unpattern(3), 0);
    Check.is(x.house(5), 2);
    Check.index(() -> x.unpattern(-1));
    Check.index(() -> x.unpattern(10));
  }

  private static void promise12() {
    Check.promise(12);
    Buildkeeper x = small();
    Check.is(x.fault(10, 9), 0);
    Check.is(x.fault(10, 0), 9);
    Check.is(x.fault(10, 2), 0);
    Check.argument(() -> x.fault(10, -1));
    Check.argument(() -> x.fault(19, 10));
    Check.state(() -> x.fault(19, 1));
    Check.state(() -> x.fault(1, 1));
    Check.index(() -> x.fault(-1, 1));
    Check.index(() -> x.fault(100, 10));
    x.step(20, 6, 0, 1);
    Check.state(() -> x.fault(20, 0));
    Check.is(x.build(10, 1, 0), 4);
    Check.is(x.ofStep(10, 5), 1);
    x.pattern(2, 1, 0, 0, 1);
    Check.is(x.fault(2, 1), 0);
    Check.is(x.fault(2, 1), 1);
  }

  private static void promise13() {
    Check.promise(13);
    Buildkeeper x = small();
    Check.is(x.mode(false, 3), 0);
    Check.is(x.house(7), 3);
    Check.is(x.house(8), 0);
    Check.argument(() -> x.mode(true, -1));
    Check.argument(() -> x.mode(true, 4));
    Check.is(x.house(8), 0);
    Check.is(x.mode(true, 1), 3);
    x.fault(10, 1);
    Check.is(x.build(10, 1, 0), 8);
    Check.is(x.ofBuild(10, 0), 3);
    Check.is(x.ofBuild(10, 5), 2);
  }

  private static void promise23() {
    Check.promise(23);
    Buildkeeper x = small();
    int[] before = {0, 0, 4, 19, 1, 0, 0, 0, NONE, NONE};
    for (int what = 0; what <= 9; what++) {
      Check.is(x.ofStep(10, what), before[what]);
    }
    x.mode(true, 3);
    x.fault(10, 1);
    x.build(10, 1, 0);
    Check.is(x.ofStep(10, 6), 1);
    Check.is(x.ofStep(10, 8), 1);
    Check.is(x.ofStep(10, 9), 8);
    x.remove(10);
    x.build(10, 1, 0);
    Check.is(x.ofBuild(10, 0), 3);
    Check.is(x.ofStep(10, 9), 6);
    // of the last three alone: 4, 5 and 4 minutes
    x.alter(10, 1);
    x.build(10, 1, 1);
    Check.is(x.ofStep(10, 9), 6);
    x.put(1, 7);
    x.build(10, 1, 0);
    Check.is(x.ofStep(10, 9), 4);
    Check.is(x.ofStep(10, 6), 4);
    x.cache(1);
    x.put(1, 8);
    x.build(10, 1, 0);
    x.remove(19);
    x.build(10, 1, 0);
    Check.is(x.ofStep(10, 7), 1);
    Check.is(x.ofStep(10, 6), 5);
    Check.index(() -> x.ofStep(-1, 0));
    Check.index(() -> x.ofStep(100, 0));
    Check.state(() -> x.ofStep(19, 10));
    Check.state(() -> x.ofStep(1, 0));
    Check.argument(() -> x.ofStep(10, -1));
    Check.argument(() -> x.ofStep(10, 10));
  }

  private static void promise24() {
    Check.promise(24);
    Buildkeeper x = small();
    Check.is(x.needOf(11, 0), 10);
    Check.is(x.needOf(11, 1), 19);
    x.pattern(2, 1, 0, 0, 1);
    Check.is(x.needOf(2, 0), 1);
    Check.argument(() -> x.needOf(11, -1));
    Check.argument(() -> x.needOf(11, 2));
    Check.argument(() -> x.needOf(2, 1));
    Check.state(() -> x.needOf(19, -1));
    Check.state(() -> x.needOf(1, 0));
    Check.index(() -> x.needOf(-1, 0));
    Check.index(() -> x.needOf(100, 0));
  }

  private static void promise25And26() {
    Buildkeeper x = small();
    x.step(20, 6, 0, 1);
    x.put(2, 10);
    x.put(2, 10);
    x.put(2, 20);
    x.step(30, 4, 0, 1);
    x.need(30, 2);
    x.need(30, 1);
    Check.is(x.readOf(30, 0), NONE);
    x.build(30, 1, 0);
    Check.promise(25);
    int[] names = {2, 1, 10, 10, 20, NONE};
    for (int i = 0; i < names.length; i++) {
      Check.is(x.readOf(30, i), names[i]);
    }
    Check.is(x.readOf(30, Integer.MAX_VALUE), NONE);
    Check.argument(() -> x.readOf(30, -1));
    Check.state(() -> x.readOf(19, -1));
    Check.index(() -> x.readOf(-1, 0));
    Check.index(() -> x.readOf(100, 0));
    Check.promise(26);
    long of1 = 6 * 101 + 4;
    long[] sums = {(11 * 101 + 11) * 101 + 21, of1, of1, of1, 0, NONE};
    for (int i = 0; i < sums.length; i++) {
      Check.is(x.readSum(30, i), sums[i]);
    }
    Check.is(x.readSum(20, 0), NONE);
    Check.argument(() -> x.readSum(30, -1));
    Check.state(() -> x.readSum(19, -1));
    Check.index(() -> x.readSum(-1, 0));
    Check.index(() -> x.readSum(100, 0));
    // a record stays as it was, whatever becomes of the step
    x.put(1, 1);
    x.unneed(30, 1);
    Check.is(x.readSum(30, 1), of1);
  }

  private static void promise27() {
    Check.promise(27);
    Buildkeeper x = small();
    x.step(5, 0, 0, 1);
    x.need(5, 10);
    x.pattern(7, 0, 0, 0, 1);
    Check.is(x.users(10, 0), 5);
    Check.is(x.users(10, 1), 11);
    Check.is(x.users(10, 2), NONE);
    Check.is(x.users(10, Integer.MAX_VALUE), NONE);
    Check.is(x.users(19, 0), 11);
    Check.is(x.users(50, 0), NONE);
    Check.argument(() -> x.users(10, -1));
    Check.index(() -> x.users(-1, -1));
    Check.index(() -> x.users(100, 0));
  }

  private static void promise28() {
    Check.promise(28);
    Buildkeeper x = small();
    x.pattern(2, 1, 0, 0, 1);
    Check.is(x.between(0, 99), 2);
    Check.is(x.between(10, 10), 1);
    Check.is(x.between(11, 19), 1);
    Check.is(x.between(12, 19), 0);
    Check.is(x.between(11, 10), REFUSED);
    Check.is(x.house(5), 1);
    Check.index(() -> x.between(-1, 0));
    Check.index(() -> x.between(100, 0));
    Check.index(() -> x.between(0, -1));
    Check.index(() -> x.between(0, 100));
  }

  private static void promise29() {
    Check.promise(29);
    Buildkeeper x = small();
    x.step(0, 0, 0, 1);
    x.step(99, 0, 0, 1);
    int[][] due = {{10, 10, 0, 10, 11}, {11, 11, 10, 11, 99}, {50, 11, 11, 99, 99}, {0, 0, NONE, 0, 10}, {99, 99, 11, 99, NONE}};
    for (int[] row : due) {
      for (int way = 0; way <= 3; way++) {
        Check.is(x.near(row[0], way), row[1 + way]);
      }
    }
    Check.argument(() -> x.near(0, -1));
    Check.argument(() -> x.near(0, 4));
    Check.index(() -> x.near(-1, 4));
    Check.index(() -> x.near(100, 0));
    Check.is(new Buildkeeper().near(50, 0), NONE);
  }
}
