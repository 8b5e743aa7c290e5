/** Promises 30 to 35: ways of needs. */
public final class WaysTest {
  private static final int NONE = -1;
  private static final int REFUSED = -9;

  public static void main(String[] args) {
    promise30();
    promise31();
    promise32();
    promise33();
    promise34();
    promise35();
    Check.end();
  }

  /** 13 needs 12 and 10; 12 needs 11 and 19; 11 needs 10; 10, with 19, needs 1. */
  private static Buildkeeper fork() {
    Buildkeeper x = new Buildkeeper();
    x.put(1, 5);
    x.step(10, 0, 0, 4);
    x.second(10, 19);
    x.need(10, 1);
    x.step(11, 0, 0, 2);
    x.need(11, 10);
    x.step(12, 0, 0, 9);
    x.need(12, 11);
    x.need(12, 19);
    x.step(13, 6, 0, 5);
    x.need(13, 12);
    x.need(13, 10);
    return x;
  }

  /** 10 needs 11 and 12, 11 needs 12, 12 needs 13 and makes 14; 13 needs 20; 20 made a second product of 11 closes a ring. */
  private static Buildkeeper knot() {
    Buildkeeper x = new Buildkeeper();
    x.step(10, 0, 0, 1);
    x.need(10, 11);
    x.need(10, 12);
    x.step(11, 0, 0, 1);
    x.need(11, 12);
    x.step(12, 0, 0, 1);
    x.second(12, 14);
    x.need(12, 9);
    x.need(12, 13);
    x.step(13, 0, 0, 1);
    x.need(13, 20);
    x.second(11, 20);
    return x;
  }

  private static void promise30() {
    Check.promise(30);
    Buildkeeper x = fork();
    Check.is(x.reaches(13, 1), true);
    Check.is(x.reaches(13, 19), true);
    Check.is(x.reaches(19, 1), true);
    Check.is(x.reaches(1, 13), false);
    Check.is(x.reaches(10, 10), false);
    Check.is(x.reaches(10, 19), false);
    Check.is(x.reaches(50, 51), false);
    Check.index(() -> x.reaches(-1, 0));
    Check.index(() -> x.reaches(100, 0));
    Check.index(() -> x.reaches(0, -1));
    Check.index(() -> x.reaches(0, 100));
    Buildkeeper y = knot();
    Check.is(y.reaches(11, 11), false);
    Check.is(y.reaches(20, 20), true);
    Check.is(y.reaches(12, 12), true);
    Check.is(y.reaches(14, 14), false);
    y.put(31, 1);
    y.pattern(2, 1, 0, 0, 1);
    Check.is(y.reaches(32, 31), true);
  }

  private static void promise31() {
    Check.promise(31);
    Buildkeeper x = fork();
    Check.is(x.ways(13, 1), 3);
    Check.is(x.ways(13, 10), 2);
    Check.is(x.ways(13, 19), 1);
    Check.is(x.ways(19, 1), 1);
    Check.is(x.ways(1, 13), 0);
    Check.is(x.ways(13, 13), 0);
    Check.is(x.ways(70, 71), 0);
    Check.index(() -> x.ways(-1, 0));
    Check.index(() -> x.ways(100, 0));
    Check.index(() -> x.ways(0, -1));
    Check.index(() -> x.ways(0, 100));
    Check.is(knot().ways(10, 11), REFUSED);
    Check.is(knot().ways(70, 70), REFUSED);
    Buildkeeper y = layers(3);
    Check.is(y.ways(30, 0), 216);
    Check.is(y.ways(30, 99), 0);
    Buildkeeper z = twos();
    Check.is(z.ways(49, 47), 2);
    Check.is(z.ways(61, 47), 8192);
    Check.is(z.ways(21, 47), 8192);
    Check.is(z.ways(62, 47), 9999);
    z.unneed(62, 1);
    Check.is(z.ways(62, 47), 8192);
  }

  /** Layers of six steps, each of which needs all of the layer below; 30 needs those of the last one. */
  private static Buildkeeper layers(int count) {
    Buildkeeper x = new Buildkeeper();
    x.put(0, 1);
    for (int layer = 0; layer < count; layer++) {
      for (int i = 1; i <= 6; i++) {
        int head = 10 * layer + 1 + i;
        x.step(head, 0, 0, 1);
        for (int j = 1; j <= 6; j++) {
          if (layer > 0) {
            x.need(head, 10 * (layer - 1) + 1 + j);
          }
        }
        if (layer == 0) {
          x.need(head, 0);
        }
      }
    }
    x.step(30, 6, 0, 1);
    for (int i = 1; i <= 6; i++) {
      x.need(30, 10 * (count - 1) + 1 + i);
    }
    return x;
  }

  /** 48 to 62: each needs the one below it and that one's second product, so the ways to 47 double from 49 on. */
  private static Buildkeeper twos() {
    Buildkeeper x = new Buildkeeper();
    x.put(47, 1);
    for (int head = 48; head <= 62; head++) {
      x.step(head, 2, 0, 1);
      x.second(head, head - 40);
      x.need(head, head - 1);
      if (head > 48) {
        x.need(head, head - 41);
      }
    }
    return x;
  }

  private static void promise32() {
    Check.promise(32);
    Buildkeeper x = fork();
    Check.is(x.way(13, 1, 0), "13>12>11>10>1");
    Check.is(x.way(13, 1, 1), "13>12>19>1");
    Check.is(x.way(13, 1, 2), "13>10>1");
    Check.is(x.way(13, 1, 3), "");
    Check.is(x.way(13, 1, 99), "");
    Check.is(x.way(13, 12, 0), "13>12");
    Check.is(x.way(19, 1, 0), "19>1");
    Check.is(x.way(13, 13, 0), "");
    Check.is(x.way(1, 13, 0), "");
    Check.index(() -> x.way(-1, 0, 0));
    Check.index(() -> x.way(100, 0, 100));
    Check.index(() -> x.way(0, -1, 0));
    Check.index(() -> x.way(0, 100, 0));
    Check.argument(() -> x.way(0, 0, -1));
    Check.argument(() -> x.way(0, 0, 100));
    Check.is(knot().way(10, 11, 0), "");
    Check.is(layers(3).way(30, 0, 99), "30>24>16>5>0");
  }

  private static void promise33() {
    Check.promise(33);
    Check.is(fork().ring(10), "");
    Buildkeeper x = knot();
    Check.is(x.ring(10), "");
    Check.is(x.ring(11), "");
    Check.is(x.ring(12), "12>13>20>12");
    Check.is(x.ring(13), "13>20>12>13");
    Check.is(x.ring(20), "20>12>13>20");
    Check.is(x.ring(14), "");
    Check.is(x.ring(99), "");
    Check.index(() -> x.ring(-1));
    Check.index(() -> x.ring(100));
    // a step that needs its own second product
    Buildkeeper y = new Buildkeeper();
    y.step(10, 0, 0, 1);
    y.need(10, 11);
    y.second(10, 11);
    Check.is(y.ring(11), "11>11");
    Check.is(y.ring(10), "");
    Check.is(y.reaches(10, 10), false);
    // the first need that leads back, without a name that was gone through: not by the shortest way
    Buildkeeper z = new Buildkeeper();
    z.step(1, 0, 0, 1);
    z.step(2, 0, 0, 1);
    z.step(3, 0, 0, 1);
    z.step(4, 0, 0, 1);
    z.need(2, 50);
    z.need(2, 3);
    z.need(2, 60);
    z.need(3, 60);
    z.need(1, 4);
    z.need(1, 2);
    z.need(4, 51);
    z.second(1, 60);
    Check.is(z.ring(60), "60>2>3>60");
    Check.is(z.ring(2), "2>3>60>2");
    Check.is(z.ring(3), "3>60>2>3");
    // a ring by a pattern
    Buildkeeper p = new Buildkeeper();
    p.step(12, 0, 0, 1);
    p.need(12, 11);
    p.pattern(1, 2, 0, 0, 1);
    Check.is(p.ring(12), "12>11>12");
    Check.is(p.build(12, 1, 0), REFUSED);
  }

  private static void promise34() {
    Check.promise(34);
    Buildkeeper x = fork();
    Check.is(x.longest(13), 15);
    Check.is(x.longest(12), 15);
    Check.is(x.longest(11), 6);
    Check.is(x.longest(19), 4);
    Check.is(x.longest(1), 0);
    Check.is(x.longest(99), 0);
    Check.index(() -> x.longest(-1));
    Check.index(() -> x.longest(100));
    Check.is(knot().longest(10), REFUSED);
    Check.is(knot().longest(99), REFUSED);
  }

  private static void promise35() {
    Check.promise(35);
    Buildkeeper x = fork();
    int[] due = {10, 11, 12, 13, NONE};
    for (int i = 0; i < due.length; i++) {
      Check.is(x.plain(13, i), due[i]);
    }
    Check.is(x.plain(13, Integer.MAX_VALUE), NONE);
    Check.is(x.plain(19, 0), 10);
    Check.is(x.plain(19, 1), NONE);
    Check.is(x.plain(1, 0), NONE);
    Check.is(x.plain(99, 0), NONE);
    Check.index(() -> x.plain(-1, -1));
    Check.index(() -> x.plain(100, 0));
    Check.argument(() -> x.plain(13, -1));
    Check.is(knot().plain(99, 0), REFUSED);
    // the smallest head that is free, not the smallest one
    Buildkeeper y = new Buildkeeper();
    y.step(5, 0, 0, 1);
    y.step(6, 0, 0, 1);
    y.step(7, 0, 0, 1);
    y.step(8, 0, 0, 1);
    y.need(8, 5);
    y.need(8, 6);
    y.need(5, 7);
    Check.is(y.plain(8, 0), 6);
    Check.is(y.plain(8, 1), 7);
    Check.is(y.plain(8, 2), 5);
    Check.is(y.plain(8, 3), 8);
    Check.is(y.plain(5, 0), 7);
  }
}
