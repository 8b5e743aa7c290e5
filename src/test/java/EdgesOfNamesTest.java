/** Section 1 of the document and promises 1 to 4, 14 to 15 and 19 to 22, sentence by sentence, at each bound. */
public final class EdgesOfNamesTest {
  private static final int NONE = -1;

  public static void main(String[] args) {
    anEmptyKeeper();
    theFirstAndTheLastName();
    stemsAndEndings();
    eightNumbers();
    numbersOfZeroTo99();
    sums();
    aContentOrNone();
    leadsToNames();
    sourcesCome();
    sourcesGo();
    alterAndRemove();
    Check.end();
  }

  /** "Creates a keeper without SOURCES and STEPS." */
  private static void anEmptyKeeper() {
    Check.promise(1);
    Buildkeeper x = new Buildkeeper();
    for (int name = 0; name < 100; name += 33) {
      int[] due = {0, NONE, NONE, 0, 0, 0};
      for (int what = 0; what <= 5; what++) {
        Check.is(x.ofName(name, what), due[what]);
      }
      Check.is(x.sum(name), NONE);
      Check.is(x.text(name), "?");
      Check.is(x.scratch(name), "?");
      Check.is(x.users(name, 0), NONE);
      Check.is(x.reaches(name, name), false);
      Check.is(x.ways(name, 99 - name), 0);
      Check.is(x.way(name, 99 - name, 0), "");
      Check.is(x.ring(name), "");
      Check.is(x.longest(name), 0);
      Check.is(x.plain(name, 0), NONE);
      Check.is(x.ofBuild(name, 0), 0);
      for (int way = 0; way <= 3; way++) {
        Check.is(x.near(name, way), NONE);
      }
    }
    Check.is(x.between(0, 99), 0);
    Check.is(x.trace(), "-");
    for (int what = 0; what <= 11; what++) {
      Check.is(x.last(what), NONE);
      Check.is(x.history(0, what), NONE);
      Check.is(x.history(7, what), NONE);
    }
    for (int what = 0; what <= 4; what++) {
      Check.is(x.cached(what), 0);
    }
    Check.is(x.cachedAt(0), "?");
    for (int what = 0; what <= 7; what++) {
      Check.is(x.house(what), 0);
    }
    Check.is(x.house(8), 1);
    Check.is(x.isSound(), true);
  }

  /** "NAMES are 0 to 99", as a source, head, second product, need, what is found, and goal. */
  private static void theFirstAndTheLastName() {
    Check.promise(2);
    Buildkeeper x = new Buildkeeper();
    Check.is(x.put(0, 99), 1);
    Check.is(x.put(99, 0), 1);
    Check.is(x.house(0), 2);
    x.step(1, 4, 0, 1);
    Check.is(x.need(1, 0), 1);
    Check.is(x.need(1, 99), 2);
    Check.is(x.build(1, 1, 0), 1);
    Check.is(x.text(1), "0 0");
    Check.is(x.readOf(1, 2), 99);
    Buildkeeper y = new Buildkeeper();
    Check.is(y.step(0, 0, 0, 1), 1);
    Check.is(y.second(0, 99), NONE);
    Check.is(y.step(98, 0, 0, 1), 2);
    Check.is(y.need(98, 99), 1);
    Check.is(y.build(98, 1, 0), 2);
    Check.is(y.text(98), "0");
    Check.is(y.build(99, 1, 0), 0);
    Check.is(y.last(0), 99);
    Buildkeeper z = new Buildkeeper();
    z.step(99, 2, 0, 1);
    Check.is(z.second(99, 0), NONE);
    Check.is(z.build(0, 1, 0), 1);
    Check.is(z.text(99) + " " + z.text(0), "0 1");
    Check.is(z.build(99, 1, 0), 0);
  }

  /** "The ENDING of a NAME is its remainder by 10, its STEM the rest." */
  private static void stemsAndEndings() {
    Check.promise(10);
    Buildkeeper x = new Buildkeeper();
    x.pattern(9, 0, 0, 0, 1);
    x.put(90, 1);
    x.put(10, 1);
    for (int name = 0; name < 100; name++) {
      boolean isOne = name == 99 || name == 19;
      Check.is(x.ofName(name, 0), isOne ? 3 : name == 90 || name == 10 ? 1 : 0);
    }
    Check.is(x.needOf(99, 0), 90);
    Buildkeeper y = new Buildkeeper();
    y.pattern(0, 9, 0, 0, 1);
    y.put(9, 1);
    y.put(99, 1);
    for (int name = 0; name < 100; name++) {
      boolean isOne = name == 0 || name == 90;
      Check.is(y.ofName(name, 0), isOne ? 3 : name == 9 || name == 99 ? 1 : 0);
    }
    Check.is(y.needOf(0, 0), 9);
  }

  /** "A CONTENT is a row of at most 8 NUMBERS." */
  private static void eightNumbers() {
    Check.promise(2);
    Buildkeeper x = new Buildkeeper();
    for (int i = 1; i <= 8; i++) {
      Check.is(x.put(5, i), i);
      Check.is(x.ofName(5, 1), i);
    }
    Check.state(() -> x.put(5, 9));
    Check.is(x.text(5), "1 2 3 4 5 6 7 8");
    Check.is(x.number(5, 7), 8);
    Check.index(() -> x.number(5, 8));
    Check.is(x.wipe(5), 8);
    Check.is(x.put(5, 9), 1);
    Check.is(x.put(6, 9), 1);
    // neither bound of one name is that of its neighbour
    Check.is(x.text(5) + "/" + x.text(6) + "/" + x.text(4), "9/9/?");
  }

  /** "Each 0 to 99." */
  private static void numbersOfZeroTo99() {
    Check.promise(2);
    Buildkeeper x = new Buildkeeper();
    Check.argument(() -> x.put(5, -1));
    Check.argument(() -> x.put(5, 100));
    Check.is(x.ofName(5, 0), 0);
    Check.is(x.put(5, 0), 1);
    Check.is(x.put(5, 1), 2);
    Check.is(x.put(5, 98), 3);
    Check.is(x.put(5, 99), 4);
    Check.is(x.text(5), "0 1 98 99");
  }

  /** "It begins with 0, and for each NUMBER v it becomes SUM * 101 + v + 1 (so unlike CONTENTS have unlike SUMS)." */
  private static void sums() {
    Check.promise(21);
    Buildkeeper x = new Buildkeeper();
    x.put(1, 0);
    Check.is(x.sum(1), 1);
    x.wipe(1);
    Check.is(x.sum(1), 0);
    x.put(1, 99);
    Check.is(x.sum(1), 100);
    x.wipe(1);
    Scenes.put(x, 1, 0, 0);
    Check.is(x.sum(1), 102);
    x.put(1, 0);
    Check.is(x.sum(1), 102 * 101 + 1);
    x.wipe(1);
    Scenes.put(x, 1, 99, 99, 99, 99, 99, 99, 99);
    Check.is(x.sum(1), 107213535210700L);
    x.put(1, 98);
    Check.is(x.sum(1), 10828567056280799L);
    x.wipe(1);
    Scenes.put(x, 1, 99, 99, 99, 99, 99, 99, 99, 99);
    Check.is(x.sum(1), 10828567056280800L);
    Check.is(x.sum(2), NONE);
    // an altered product has the sum of its new content
    x.step(10, 0, 0, 1);
    x.build(10, 1, 0);
    Check.is(x.sum(10), 0);
    x.alter(10, 0);
    Check.is(x.sum(10), 1);
    x.alter(10, 99);
    Check.is(x.sum(10), 100);
    x.remove(10);
    Check.is(x.sum(10), NONE);
  }

  /** "The CONTENT of a NAME is that of the SOURCE, or of the PRODUCT that is THERE, or the empty one, if its STEP is a GROUP; otherwise it has none." */
  private static void aContentOrNone() {
    Check.promise(22);
    Buildkeeper x = new Buildkeeper();
    x.put(1, 3);
    x.wipe(1);
    x.step(10, 2, 0, 1);
    x.second(10, 11);
    x.step(20, 6, 0, 1);
    x.second(20, 21);
    x.pattern(2, 1, 2, 0, 1);
    content(x, 1, 0, 0, "-");
    content(x, 20, 0, 0, "-");
    content(x, 21, 0, 0, "-");
    for (int name : new int[] {2, 10, 11, 12, 22, 99}) {
      content(x, name, NONE, NONE, "?");
    }
    Check.is(x.build(20, 1, 0), 0);
    Check.is(x.house(3), 0);
    content(x, 20, 0, 0, "-");
    x.build(10, 1, 0);
    x.build(2, 1, 0);
    content(x, 10, 1, 1, "0");
    content(x, 11, 1, 2, "1");
    content(x, 2, 1, 1, "0");
    content(x, 12, NONE, NONE, "?");
    Check.is(x.house(3), 3);
    x.remove(11);
    content(x, 10, 1, 1, "0");
    content(x, 11, NONE, NONE, "?");
    Check.is(x.house(3), 2);
  }

  private static void content(Buildkeeper x, int name, int size, long sum, String text) {
    Check.is(x.ofName(name, 1), size);
    Check.is(x.sum(name), sum);
    Check.is(x.text(name), text);
  }

  /** "How many NAMES there are, other than it, to which a way of needs leads from it": in a ring it does not count itself. */
  private static void leadsToNames() {
    Check.promise(19);
    Buildkeeper x = Scenes.ringed();
    Check.is(x.ofName(31, 4), 0);
    Check.is(x.ofName(30, 4), 1);
    Check.is(x.ofName(11, 4), 3);
    Check.is(x.ofName(10, 4), 1);
    Check.is(x.ofName(1, 4), 0);
    x.need(30, 11);
    Check.is(x.ofName(31, 4), 4);
    Check.is(x.ofName(30, 4), 5);
    // "how many own STEPS NEED it": those by patterns do not
    x.pattern(2, 1, 0, 0, 1);
    Check.is(x.ofName(1, 3), 1);
    Check.is(x.ofName(11, 3), 1);
    Check.is(x.ofName(30, 3), 0);
  }

  /** "A NAME that is none becomes one, with that NUMBER", whatever it had before. */
  private static void sourcesCome() {
    Check.promise(2);
    Buildkeeper x = new Buildkeeper();
    Scenes.put(x, 31, 1, 2, 3, 4, 5, 6, 7, 8);
    x.pattern(2, 1, 0, 0, 1);
    x.pattern(3, 2, 2, 0, 1);
    x.build(33, 1, 0);
    Check.is(x.text(32), "1 2 3 4 5 6 7 8");
    // a product of a pattern that has 8 numbers: it is no source that has 8
    Check.is(x.put(32, 50), 1);
    Check.is(x.text(32), "50");
    Check.is(x.ofName(32, 0), 1);
    Check.is(x.house(0), 2);
    Check.is(x.put(32, 51), 2);
    // one that has 7, and one that is not there
    x.build(33, 1, 0);
    Check.is(x.put(33, 99), 1);
    Check.is(x.put(42, 1), 1);
    Check.is(x.ofName(43, 0), 3);
    Check.is(x.put(43, 7), 1);
    Check.is(x.text(43), "7");
    Check.is(x.house(0), 5);
    // the eighth number of what was a product
    for (int i = 2; i <= 8; i++) {
      Check.is(x.put(33, i), i);
    }
    Check.state(() -> x.put(33, 9));
  }

  /** "A SOURCE is none any more. Returns how many SOURCES are left." */
  private static void sourcesGo() {
    Check.promise(4);
    Buildkeeper x = new Buildkeeper();
    for (int name = 0; name < 100; name++) {
      Check.is(x.put(name, 1), 1);
    }
    Check.is(x.house(0), 100);
    for (int name = 99; name >= 0; name--) {
      Check.is(x.drop(name), name);
    }
    Check.is(x.house(0), 0);
    Check.state(() -> x.drop(0));
    // an empty one is one, too
    x.put(7, 1);
    x.wipe(7);
    Check.is(x.drop(7), 0);
    // what it had is not there as it becomes a product
    x.put(31, 1);
    x.put(32, 2);
    x.pattern(2, 1, 0, 0, 1);
    Check.is(x.text(32), "2");
    x.drop(32);
    Check.is(x.ofName(32, 0), 3);
    Check.is(x.text(32), "?");
    Check.is(x.house(3), 0);
  }

  /** "Returns how many NUMBERS it had": 0, 1 and 8. */
  private static void alterAndRemove() {
    Buildkeeper x = new Buildkeeper();
    Scenes.put(x, 1, 1, 2, 3, 4, 5, 6, 7, 8);
    x.step(10, 0, 0, 1);
    x.second(10, 11);
    x.build(10, 1, 0);
    Check.promise(14);
    Check.is(x.alter(10, 0), 0);
    Check.is(x.alter(10, 99), 1);
    Check.is(x.text(10), "99");
    Check.is(x.text(11), "0");
    x.need(10, 1);
    x.build(10, 1, 0);
    Check.is(x.alter(10, 5), 8);
    Check.is(x.ofName(10, 1), 1);
    x.build(10, 1, 0);
    Check.promise(15);
    Check.is(x.remove(10), 8);
    Check.is(x.remove(10), -9);
    Check.is(x.remove(11), 1);
    x.wipe(1);
    x.build(10, 1, 0);
    Check.is(x.remove(10), 0);
    Check.is(x.remove(10), -9);
    Check.is(x.ofName(10, 0), 2);
  }
}
