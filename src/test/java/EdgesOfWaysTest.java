/** Promises 27 to 35, sentence by sentence, at each bound. */
public final class EdgesOfWaysTest {
  private static final int NONE = -1;
  private static final int REFUSED = -9;

  public static void main(String[] args) {
    usersByTurns();
    betweenTwo();
    nextHeads();
    reached();
    waysUpTo9999();
    theNthWay();
    theLastWayOf99();
    waysDiffer();
    aRingOfAll();
    ringsGoByTheFirstNeed();
    longestWays();
    theLongestOfAll();
    plainOrders();
    Check.end();
  }

  private static void tell(Buildkeeper x, int head, int... needs) {
    x.step(head, 0, 0, 1);
    for (int need : needs) {
      x.need(head, need);
    }
  }

  /** "The nth of the HEADS (by rising HEADS) of own STEPS that NEED it; NONE if there are not so many." */
  private static void usersByTurns() {
    Check.promise(27);
    Buildkeeper x = new Buildkeeper();
    for (int name = 0; name <= 99; name += 33) {
      Check.is(x.users(name, 0), NONE);
    }
    int[] heads = {99, 0, 50, 49};
    for (int head : heads) {
      tell(x, head, 7);
    }
    int[] due = {0, 49, 50, 99};
    for (int nth = 0; nth < 4; nth++) {
      Check.is(x.users(7, nth), due[nth]);
    }
    Check.is(x.users(7, 4), NONE);
    Check.is(x.users(7, Integer.MAX_VALUE), NONE);
    Check.argument(() -> x.users(7, -1));
    // one by a pattern needs it as well, and does not count
    x.put(7, 1);
    x.pattern(8, 7, 0, 0, 1);
    Check.is(x.needOf(8, 0), 7);
    Check.is(x.users(7, 4), NONE);
    Check.is(x.ofName(7, 3), 4);
    x.unneed(0, 0);
    x.strike(50);
    Check.is(x.users(7, 0), 49);
    Check.is(x.users(7, 1), 99);
    Check.is(x.users(7, 2), NONE);
    // 24 of them
    Buildkeeper y = new Buildkeeper();
    for (int head = 70; head < 94; head++) {
      tell(y, head, 0);
    }
    Check.is(y.users(0, 23), 93);
    Check.is(y.users(0, 24), NONE);
    Check.is(y.ofName(0, 3), 24);
  }

  /** "How many HEADS of own STEPS are from or more, and to or less; REFUSED if from is above to." */
  private static void betweenTwo() {
    Check.promise(28);
    Buildkeeper x = new Buildkeeper();
    Check.is(x.between(0, 99), 0);
    tell(x, 0);
    tell(x, 99);
    tell(x, 50);
    x.second(50, 51);
    int[][] due = {{0, 99, 3}, {1, 98, 1}, {0, 98, 2}, {1, 99, 2}, {0, 0, 1}, {99, 99, 1}, {50, 50, 1}, {51, 51, 0},
        {49, 50, 1}, {50, 51, 1}, {51, 98, 0}, {1, 49, 0}, {1, 0, REFUSED}, {99, 98, REFUSED}, {51, 50, REFUSED}};
    for (int[] row : due) {
      Check.is(x.between(row[0], row[1]), row[2]);
    }
    Check.is(x.house(5), 3);
  }

  /** "0 the greatest that is no more, 1 that is less, 2 the smallest that is no less, 3 that is more; NONE without one." */
  private static void nextHeads() {
    Check.promise(29);
    Buildkeeper x = new Buildkeeper();
    for (int way = 0; way <= 3; way++) {
      Check.is(x.near(0, way), NONE);
      Check.is(x.near(99, way), NONE);
    }
    tell(x, 40);
    x.second(40, 45);
    tell(x, 60);
    int[][] due = {{39, NONE, NONE, 40, 40}, {40, 40, NONE, 40, 60}, {41, 40, 40, 60, 60}, {45, 40, 40, 60, 60},
        {59, 40, 40, 60, 60}, {60, 60, 40, 60, NONE}, {61, 60, 60, NONE, NONE}, {0, NONE, NONE, 40, 40}, {99, 60, 60, NONE, NONE}};
    for (int[] row : due) {
      for (int way = 0; way <= 3; way++) {
        Check.is(x.near(row[0], way), row[1 + way]);
      }
    }
    tell(x, 0);
    tell(x, 99);
    int[][] ends = {{0, 0, NONE, 0, 40}, {1, 0, 0, 40, 40}, {98, 60, 60, 99, 99}, {99, 99, 60, 99, NONE}};
    for (int[] row : ends) {
      for (int way = 0; way <= 3; way++) {
        Check.is(x.near(row[0], way), row[1 + way]);
      }
    }
    // one by a pattern is no own one
    x.pattern(1, 0, 0, 0, 1);
    Check.is(x.ofName(41, 0), 3);
    Check.is(x.near(41, 0), 40);
  }

  /** "(Of one NEED at least.)" */
  private static void reached() {
    Check.promise(30);
    Buildkeeper x = new Buildkeeper();
    Check.is(x.reaches(0, 0), false);
    tell(x, 0, 99);
    Check.is(x.reaches(0, 99), true);
    Check.is(x.reaches(0, 0), false);
    Check.is(x.reaches(99, 0), false);
    Check.is(x.reaches(99, 99), false);
    tell(x, 99, 50);
    x.second(99, 98);
    Check.is(x.reaches(0, 50), true);
    Check.is(x.reaches(98, 50), true);
    Check.is(x.reaches(0, 98), false);
    x.unneed(99, 0);
    Check.is(x.reaches(0, 50), false);
    // through a group, a pattern, and of what is nothing
    x.pattern(1, 0, 0, 0, 1);
    x.step(10, 6, 0, 1);
    x.need(10, 1);
    Check.is(x.reaches(11, 99), true);
    Check.is(x.reaches(50, 0), false);
  }

  /** 20 and more lead to 0 in so many ways: each doubles those of the one below it, and one more need adds one. */
  private static Buildkeeper withWays(int count) {
    Buildkeeper x = new Buildkeeper();
    x.put(0, 1);
    int bits = 32 - Integer.numberOfLeadingZeros(count);
    for (int i = 0; i < bits; i++) {
      int head = 20 + i;
      x.step(head, 2, 0, 1);
      x.second(head, head + 40);
      if (i > 0) {
        x.need(head, head - 1);
        x.need(head, head + 39);
      }
      if ((count >> bits - 1 - i) % 2 == 1) {
        x.need(head, 0);
      }
    }
    x.step(1, 6, 0, 1);
    x.need(1, 20 + bits - 1);
    return x;
  }

  /** "How many ways of needs lead from the one to the other one (9999 if there are more ...; 0 from a NAME to itself)." */
  private static void waysUpTo9999() {
    Check.promise(31);
    int[] counts = {1, 2, 3, 99, 100, 4999, 5000, 9998, 9999, 10000, 10001, 16383, 32767, 65535};
    for (int count : counts) {
      Buildkeeper x = withWays(count);
      Check.is(x.ways(1, 0), Math.min(9999, count));
      Check.is(x.ways(1, 1), 0);
      Check.is(x.ways(0, 0), 0);
      Check.is(x.ways(0, 1), 0);
      Check.is(x.ways(1, 99), 0);
      Check.is(x.ways(99, 0), 0);
      Check.is(x.way(1, 0, 99).isEmpty(), count < 100);
      // the second product of the last one has as many
      x.unneed(1, 0);
      Check.is(x.ways(1, 0), 0);
      Check.is(x.way(1, 0, 0), "");
    }
    // as many as there can be: the last one and its second product are needed, too
    Buildkeeper x = withWays((1 << 23) - 1);
    Check.is(x.house(1), 24);
    Check.is(x.ways(1, 0), 9999);
    x.need(1, 82);
    Check.is(x.ways(1, 0), 9999);
    Check.is(x.ways(1, 42), 1);
    Check.is(x.ways(1, 41), 2);
    Check.is(x.ways(1, 81), 2);
    Check.is(x.way(1, 41, 1), "1>82>41");
    Check.is(x.way(1, 41, 2), "");
  }

  /** "The nth way (NEEDS that come first go first, at the first place at which ways differ)." */
  private static void theNthWay() {
    Check.promise(32);
    Buildkeeper x = withWays(5);
    // 20 needs 0; 21 needs 20 and 60; 22 needs 21, 61 and 0
    String[] due = {"1>22>21>20>0", "1>22>21>60>0", "1>22>61>20>0", "1>22>61>60>0", "1>22>0", ""};
    for (int nth = 0; nth < due.length; nth++) {
      Check.is(x.way(1, 0, nth), due[nth]);
    }
    Check.is(x.way(1, 0, 99), "");
    Check.argument(() -> x.way(1, 0, 100));
    Check.argument(() -> x.way(1, 0, -1));
    Check.is(x.way(1, 1, 0), "");
    Check.is(x.way(0, 0, 0), "");
    Check.is(x.way(0, 1, 0), "");
    Check.is(x.way(22, 0, 4), "22>0");
    Check.is(x.way(62, 0, 4), "62>0");
    Check.is(x.way(62, 21, 0), "62>21");
    // by the order in which needs were told, not by their numbers
    x.unneed(22, 0);
    x.need(22, 21);
    Check.is(x.way(1, 0, 0), "1>22>61>20>0");
    Check.is(x.way(1, 0, 2), "1>22>0");
    Check.is(x.way(1, 0, 4), "1>22>21>60>0");
  }

  /** "nth is not 0 to 99": with 99, 100 and 101 ways. */
  private static void theLastWayOf99() {
    Check.promise(32);
    for (int count = 99; count <= 101; count++) {
      Buildkeeper x = withWays(count);
      Check.is(x.way(1, 0, 98).isEmpty(), false);
      Check.is(x.way(1, 0, 99).isEmpty(), count < 100);
      Check.argument(() -> x.way(1, 0, 100));
      // 26 needs 25, 65, and 0 only of an odd count; of 100 and 101 the way 99 is the last one by 65
      Check.is(x.way(1, 0, 98), count == 99 ? "1>26>0" : "1>26>65>64>63>62>61>0");
      Check.is(x.way(1, 0, 99), count == 99 ? "" : "1>26>65>64>0");
    }
  }

  /** "Unlike, if they go through unlike NAMES": two products of one step are two. */
  private static void waysDiffer() {
    Check.promise(31);
    Buildkeeper x = new Buildkeeper();
    tell(x, 10, 0);
    x.second(10, 19);
    tell(x, 20, 10, 19);
    Check.is(x.ways(20, 0), 2);
    Check.is(x.ways(20, 10), 1);
    Check.is(x.ways(20, 19), 1);
    Check.is(x.ways(19, 0), 1);
    x.unneed(20, 1);
    Check.is(x.ways(20, 0), 1);
    Check.is(x.ways(20, 19), 0);
    // "REFUSED if there is a RING anywhere"
    tell(x, 50, 51);
    x.second(50, 51);
    Check.is(x.ways(20, 0), REFUSED);
    Check.is(x.ways(0, 0), REFUSED);
    Check.is(x.way(20, 0, 0), "");
  }

  /** A ring through 24 own steps and as many by a pattern as there can be. */
  private static void aRingOfAll() {
    Check.promise(33);
    Buildkeeper x = new Buildkeeper();
    x.pattern(1, 0, 0, 0, 1);
    x.pattern(2, 1, 0, 0, 1);
    x.pattern(3, 2, 0, 0, 1);
    x.pattern(4, 3, 0, 0, 1);
    StringBuilder due = new StringBuilder();
    int before = NONE;
    for (int stem = 0; stem < 10; stem++) {
      tell(x, 10 * stem);
      if (before >= 0) {
        x.need(10 * stem, before);
      }
      before = 10 * stem + 4;
      due.insert(0, 10 * stem + 4 + ">" + (10 * stem + 3) + ">" + (10 * stem + 2) + ">" + (10 * stem + 1) + ">" + 10 * stem + ">");
    }
    for (int i = 0; i < 14; i++) {
      int head = 5 + i % 5 + i / 5 * 10;
      tell(x, head, before);
      before = head;
      due.insert(0, head + ">");
    }
    Check.is(x.ring(before), "");
    Check.is(x.build(before, 1, 0), 64);
    Check.is(x.longest(before), 64);
    Check.is(x.ofName(before, 4), 63);
    // the second product of the first one closes it
    x.need(0, 99);
    x.second(before, 99);
    String ring = "99>" + due.substring((before + ">").length()) + "99";
    Check.is(x.ring(99), ring);
    Check.is(ring.split(">").length, 65);
    Check.is(x.ring(before), "");
    Check.is(x.reaches(99, 99), true);
    Check.is(x.build(before, 1, 0), REFUSED);
    Check.is(x.isSound(), true);
  }

  /** "At each NAME by the first NEED of which a way (of none, one or more NEEDS) leads to name without a NAME that was gone through." */
  private static void ringsGoByTheFirstNeed() {
    Check.promise(33);
    Buildkeeper x = new Buildkeeper();
    tell(x, 1, 50, 2, 9);
    tell(x, 2, 3, 9);
    tell(x, 3, 51, 4, 9);
    tell(x, 4);
    x.second(4, 9);
    Check.is(x.ring(9), "");
    x.need(4, 1);
    // 9 and 4 are one step's: it needs 1, and through 1, 2 and 3 it comes to 9, but by 4 it would come to 1 again
    Check.is(x.ring(9), "");
    Buildkeeper y = new Buildkeeper();
    tell(y, 4);
    tell(y, 1, 50, 2, 9);
    tell(y, 2, 3, 9);
    tell(y, 3, 51, 9);
    y.need(4, 1);
    y.second(4, 9);
    Check.is(y.ring(9), "9>1>2>3>9");
    Check.is(y.ring(1), "1>2>3>9>1");
    Check.is(y.ring(3), "3>9>1>2>3");
    Check.is(y.ring(4), "");
    Check.is(y.ring(50), "");
    // of none: the first need is the name itself
    Buildkeeper z = new Buildkeeper();
    tell(z, 4, 9, 8);
    z.second(4, 9);
    Check.is(z.ring(9), "9>9");
    // it is the second need that is the name itself, and the first leads back to it as well
    Buildkeeper w = new Buildkeeper();
    tell(w, 3, 9);
    tell(w, 4, 3, 9);
    w.second(4, 9);
    Check.is(w.ring(9), "9>3>9");
    Check.is(w.ring(3), "3>9>3");
    // the first need leads back, but only through a name that was gone through
    Buildkeeper u = new Buildkeeper();
    tell(u, 1, 12);
    tell(u, 2, 13, 11);
    tell(u, 3, 14, 12);
    tell(u, 4, 12, 13);
    u.second(1, 11);
    u.second(2, 12);
    u.second(3, 13);
    u.second(4, 14);
    Check.is(u.ring(11), "11>12>11");
    Check.is(u.ring(12), "12>13>14>12");
    Check.is(u.ring(13), "13>14>12>13");
    Check.is(u.ring(14), "14>12>13>14");
    // 0 and 99
    Buildkeeper v = new Buildkeeper();
    tell(v, 99, 98);
    tell(v, 98, 0);
    v.second(99, 0);
    Check.is(v.ring(0), "0>98>0");
    Check.is(v.ring(98), "98>0>98");
    Check.is(v.ring(99), "");
  }

  /** "The greatest sum of LENGTHS of the STEPS of the NAMES of a way of needs from it on (its own, too; a GROUP counts 0; 0 without a STEP)." */
  private static void longestWays() {
    Check.promise(34);
    Buildkeeper x = new Buildkeeper();
    Check.is(x.longest(0), 0);
    x.put(0, 1);
    Check.is(x.longest(0), 0);
    x.step(10, 0, 0, 9);
    x.second(10, 19);
    Check.is(x.longest(10), 9);
    Check.is(x.longest(19), 9);
    x.step(20, 6, 0, 9);
    Check.is(x.longest(20), 0);
    x.need(20, 10);
    Check.is(x.longest(20), 9);
    x.step(30, 0, 0, 1);
    x.need(30, 0);
    x.need(30, 20);
    Check.is(x.longest(30), 10);
    x.step(40, 0, 0, 8);
    x.need(40, 30);
    x.need(40, 19);
    Check.is(x.longest(40), 18);
    x.step(10, 0, 0, 1);
    Check.is(x.longest(40), 10);
    x.step(10, 6, 0, 9);
    Check.is(x.longest(40), 9);
    x.pattern(1, 0, 0, 0, 5);
    Check.is(x.longest(41), 14);
    // what was built does not matter
    x.build(40, 1, 0);
    Check.is(x.longest(40), 9);
  }

  private static void theLongestOfAll() {
    Check.promise(34);
    Buildkeeper x = new Buildkeeper();
    for (int i = 0; i < 24; i++) {
      x.step(99 - i, 0, 0, 9);
      if (i > 0) {
        x.need(99 - i, 100 - i);
      }
    }
    Check.is(x.longest(76), 216);
    Check.is(x.longest(99), 9);
    Check.is(x.way(76, 99, 0).split(">").length, 24);
    Check.is(x.plain(76, 0), 99);
    Check.is(x.plain(76, 23), 76);
    Check.is(x.plain(76, 24), NONE);
    Check.is(x.build(76, 6, 0), 216);
  }

  /** "NONE if there are not so many", and the order of those that could both be next. */
  private static void plainOrders() {
    Check.promise(35);
    Buildkeeper x = new Buildkeeper();
    Check.is(x.plain(0, 0), NONE);
    tell(x, 99);
    Check.is(x.plain(99, 0), 99);
    Check.is(x.plain(99, 1), NONE);
    Check.is(x.plain(99, Integer.MAX_VALUE), NONE);
    Check.argument(() -> x.plain(99, -1));
    tell(x, 0, 99, 1);
    x.put(1, 1);
    x.second(99, 50);
    tell(x, 98, 50, 2);
    tell(x, 5, 98, 0);
    tell(x, 6, 99);
    int[] due = {99, 0, 98, 5, NONE};
    for (int nth = 0; nth < due.length; nth++) {
      Check.is(x.plain(5, nth), due[nth]);
    }
    Check.is(x.plain(50, 0), 99);
    Check.is(x.plain(50, 1), NONE);
    Check.is(x.plain(1, 0), NONE);
    // a group is a step of it, as is one by a pattern
    x.step(5, 6, 0, 1);
    Check.is(x.plain(5, 3), 5);
    x.pattern(7, 5, 0, 0, 1);
    Check.is(x.plain(7, 3), 5);
    Check.is(x.plain(7, 4), 7);
    Check.is(x.plain(7, 5), NONE);
  }
}
