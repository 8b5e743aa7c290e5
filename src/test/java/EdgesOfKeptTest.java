/** The last paragraph of section 2: when what is kept of a HEAD is gone, and when it stays; each thing that is kept by itself. */
public final class EdgesOfKeptTest {
  private static final int NONE = -1;

  private static final String ALL = "2 3/1 2 1 2 2";
  private static final String ALL_BUT_THE_PRODUCT = "?/1 2 1 2 2";
  private static final String NOTHING = "?/0 0 0 -1 -1";

  public static void main(String[] args) {
    struck();
    becomesASource();
    getsAnOwnStep();
    becomesASecondProduct();
    becomesAGroup();
    secondProductsGo();
    staysWhileThereIsNoStep();
    allElseStays();
    Check.end();
  }

  /** Its content; FAULTS, how often DONE, how often FETCHED, how many names its RECORD READ, FORETOLD. */
  private static String kept(Buildkeeper x, int head) {
    StringBuilder out = new StringBuilder(x.text(head)).append('/');
    for (int what : new int[] {5, 6, 7, 8, 9}) {
      out.append(what > 5 ? " " : "").append(x.ofStep(head, what));
    }
    return out.toString();
  }

  /** 12 comes from 11 by a pattern, 22 is an own step with 29; of both is kept what can be. */
  private static Buildkeeper scene() {
    Buildkeeper x = new Buildkeeper();
    Scenes.put(x, 11, 2, 3);
    x.pattern(2, 1, 0, 0, 2);
    x.step(22, 0, 7, 2);
    x.second(22, 29);
    x.need(22, 11);
    x.put(1, 8);
    x.wipe(1);
    x.need(22, 1);
    for (int goal : new int[] {12, 22}) {
      x.build(goal, 1, 0);
      x.alter(goal, 50);
      x.cache(12);
      x.build(goal, 1, 0);
      x.alter(goal, 50);
      x.build(goal, 1, 0);
      x.cache(0);
      x.fault(goal, 1);
    }
    return x;
  }

  private static final String ALL_BY_PATTERN = "2 3/1 2 1 1 2";

  private static void struck() {
    Check.promise(9);
    Buildkeeper x = scene();
    Check.is(kept(x, 22), ALL);
    Check.is(kept(x, 12), ALL_BY_PATTERN);
    Check.is(x.text(29), "2");
    x.strike(22);
    Check.is(x.text(22) + x.text(29), "??");
    Check.is(x.house(3), 1);
    x.step(22, 0, 7, 2);
    Check.is(kept(x, 22), NOTHING);
    x.second(22, 29);
    Check.is(x.text(29), "?");
    Check.is(kept(x, 12), ALL_BY_PATTERN);
    // struck, it may be one by a pattern at once
    Buildkeeper y = scene();
    y.put(21, 5);
    y.strike(22);
    Check.is(y.ofName(22, 0), 3);
    Check.is(kept(y, 22), NOTHING);
    Check.is(y.readOf(22, 0), NONE);
    y.build(22, 1, 0);
    Check.is(y.ofBuild(22, 1), 1);
  }

  private static void becomesASource() {
    Check.promise(2);
    Buildkeeper x = scene();
    x.put(12, 2);
    x.put(12, 3);
    x.drop(12);
    Check.is(kept(x, 12), NOTHING);
    // also as it is no step just then
    Buildkeeper y = scene();
    y.unpattern(2);
    y.put(12, 9);
    y.drop(12);
    y.pattern(2, 1, 0, 0, 2);
    Check.is(kept(y, 12), NOTHING);
    // 8 numbers more of one that is a source already
    y.put(12, 1);
    y.put(12, 1);
    Check.is(y.text(12), "1 1");
  }

  private static void getsAnOwnStep() {
    Check.promise(5);
    Buildkeeper x = scene();
    x.step(12, 0, 0, 2);
    Check.is(kept(x, 12), NOTHING);
    x.strike(12);
    Check.is(kept(x, 12), NOTHING);
    Buildkeeper y = scene();
    y.unpattern(2);
    y.step(12, 0, 0, 2);
    Check.is(kept(y, 12), NOTHING);
    // where it had one, all stays
    y.step(22, 0, 7, 2);
    Check.is(kept(y, 22), ALL);
    Check.is(y.text(29), "2");
  }

  private static void becomesASecondProduct() {
    Check.promise(6);
    Buildkeeper x = scene();
    x.step(50, 0, 0, 1);
    x.second(50, 12);
    Check.is(x.text(12), "?");
    Check.is(x.house(3), 2);
    x.second(50, 50);
    Check.is(x.ofName(12, 0), 3);
    Check.is(kept(x, 12), NOTHING);
    Buildkeeper y = scene();
    y.unpattern(2);
    y.second(22, 12);
    Check.is(y.text(12), "?");
    y.second(22, 29);
    y.pattern(2, 1, 0, 0, 2);
    Check.is(kept(y, 12), NOTHING);
    Check.is(kept(y, 22), ALL);
  }

  private static void becomesAGroup() {
    Check.promise(5);
    Buildkeeper x = scene();
    x.step(22, 6, 7, 2);
    Check.is(x.text(22) + x.text(29), "--");
    Check.is(x.house(3), 1);
    Check.is(kept(x, 22), "-/0 0 0 -1 -1");
    x.step(22, 0, 7, 2);
    Check.is(kept(x, 22), NOTHING);
    Check.is(x.text(29), "?");
    Check.is(x.ofStep(22, 3), 29);
    Check.is(x.ofStep(22, 4), 2);
    // a kind below it
    Buildkeeper y = scene();
    y.step(22, 5, 7, 2);
    Check.is(kept(y, 22), ALL);
    Check.is(y.text(29), "2");
  }

  /** "A second PRODUCT that is not one any more is not THERE any more." */
  private static void secondProductsGo() {
    Check.promise(6);
    Buildkeeper x = scene();
    x.second(22, 22);
    Check.is(x.text(29), "?");
    Check.is(kept(x, 22), ALL);
    x.second(22, 29);
    Check.is(x.text(29), "?");
    Buildkeeper y = scene();
    y.second(22, 28);
    Check.is(y.text(28) + y.text(29), "??");
    Check.is(kept(y, 22), ALL);
    // not there as the second one of another step, nor as one by a pattern
    y.step(50, 0, 0, 1);
    y.second(50, 29);
    Check.is(y.text(29), "?");
    y.second(50, 50);
    y.put(21, 4);
    y.pattern(9, 1, 0, 0, 1);
    Check.is(y.ofName(29, 0), 3);
    Check.is(kept(y, 29), NOTHING);
    // told to be what it is already, it stays
    Buildkeeper z = scene();
    Check.is(z.second(22, 29), 29);
    Check.is(z.text(29), "2");
    Check.is(kept(z, 22), ALL);
  }

  /** "What is kept of the HEAD of a STEP by a PATTERN stays while it is no STEP, and counts again as it is one again." */
  private static void staysWhileThereIsNoStep() {
    Check.promise(11);
    Buildkeeper x = scene();
    x.unpattern(2);
    Check.is(x.text(12), "?");
    Check.is(x.ofName(12, 0), 0);
    Check.is(x.ofName(12, 1), NONE);
    Check.is(x.sum(12), NONE);
    Check.index(() -> x.number(12, 0));
    Check.is(x.house(3), 2);
    Check.state(() -> x.ofStep(12, 6));
    Check.state(() -> x.alter(12, 1));
    Check.state(() -> x.remove(12));
    Check.state(() -> x.fault(12, 1));
    x.pattern(2, 1, 0, 0, 9);
    Check.is(kept(x, 12), ALL_BY_PATTERN);
    Check.is(x.house(3), 3);
    x.fault(12, 0);
    Check.is(x.build(12, 1, 0), 0);
    Check.is(x.ofBuild(12, 0), 1);
    // by another pattern, too: its record tells what is another one then
    Scenes.put(x, 13, 2, 3);
    x.pattern(2, 3, 0, 0, 9);
    Check.is(kept(x, 12), "2 3/0 2 1 1 2");
    x.build(12, 1, 0);
    Check.is(x.ofBuild(12, 1), 3);
    Check.is(x.ofBuild(12, 2), 13);
    Check.is(x.ofBuild(12, 0), 4);
    // by its source, which goes and comes
    Buildkeeper y = scene();
    y.drop(11);
    Check.is(y.ofName(12, 0), 0);
    Check.is(y.text(12), "?");
    Scenes.put(y, 11, 2, 3);
    Check.is(kept(y, 12), ALL_BY_PATTERN);
    // not there as it was removed before
    y.remove(12);
    y.unpattern(2);
    y.pattern(2, 1, 0, 0, 2);
    Check.is(kept(y, 12), "?/1 2 1 1 2");
  }

  /** "One that is there has another RULE and LENGTH then, all else stays." */
  private static void allElseStays() {
    Check.promise(5);
    Buildkeeper x = scene();
    Check.is(x.step(22, 1, 99, 9), 1);
    Check.is(kept(x, 22), ALL);
    Check.is(x.ofStep(22, 3), 29);
    Check.is(x.needOf(22, 0), 11);
    Check.is(x.needOf(22, 1), 1);
    Check.is(x.text(29), "2");
    x.remove(22);
    Check.is(kept(x, 22), ALL_BUT_THE_PRODUCT);
    x.unneed(22, 1);
    Check.is(kept(x, 22), ALL_BUT_THE_PRODUCT);
    x.wipe(11);
    x.drop(1);
    Check.is(kept(x, 22), ALL_BUT_THE_PRODUCT);
  }
}
