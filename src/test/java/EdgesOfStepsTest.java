/** Section 2 of the document and promises 5 to 13, sentence by sentence, at each bound. */
public final class EdgesOfStepsTest {
  private static final int NONE = -1;
  private static final int REFUSED = -9;
  private static final int FAILED = 5;
  private static final int DONE = 3;

  public static void main(String[] args) {
    twentyFourSteps();
    rules();
    sixNeeds();
    needsMoveUp();
    fourPatterns();
    productsOfPatterns();
    whatStandsInTheWay();
    faults();
    retries();
    emptyJoins();
    eightNumbersAndNine();
    thePartOfJoin();
    numbersOfParameterOrMore();
    manyNumbersCounted();
    included();
    eightFound();
    groupsMakeNothing();
    secondProducts();
    ringsByToldNeedsAlone();
    struckSteps();
    Check.end();
  }

  private static void result(Buildkeeper x, int head, String due) {
    x.build(head, 1, 0);
    Check.is(x.ofBuild(head, 0) == FAILED ? "failed " + x.ofBuild(head, 1) : x.text(head), due);
  }

  /** "Own STEPS: at most 24." Those by patterns do not count, and struck ones do not any more. */
  private static void twentyFourSteps() {
    Check.promise(5);
    Buildkeeper x = new Buildkeeper();
    x.put(0, 1);
    x.pattern(1, 0, 0, 0, 1);
    x.pattern(2, 1, 0, 0, 1);
    for (int i = 1; i <= 24; i++) {
      Check.is(x.step(9 + i, 0, 0, 1), i);
    }
    Check.is(x.house(1), 24);
    Check.is(x.ofName(2, 0), 3);
    Check.state(() -> x.step(34, 0, 0, 1));
    Check.state(() -> x.step(2, 0, 0, 1));
    Check.is(x.step(10, 1, 0, 1), 24);
    Check.is(x.step(33, 6, 0, 1), 24);
    Check.is(x.strike(20), 23);
    Check.is(x.step(34, 0, 0, 1), 24);
    Check.state(() -> x.step(20, 0, 0, 1));
    Check.is(x.second(34, 20), NONE);
    Check.is(x.between(0, 99), 24);
  }

  /** "A RULE, which is a KIND (0 to 6) and a PARAMETER (0 to 99); a LENGTH (1 to 9 minutes)." */
  private static void rules() {
    Check.promise(5);
    Buildkeeper x = new Buildkeeper();
    int[][] told = {{0, 0, 1}, {6, 99, 9}, {1, 1, 2}, {5, 98, 8}};
    for (int[] rule : told) {
      x.step(50, rule[0], rule[1], rule[2]);
      for (int what = 0; what < 3; what++) {
        Check.is(x.ofStep(50, what), rule[what]);
      }
    }
    Check.argument(() -> x.step(50, 7, 0, 1));
    Check.argument(() -> x.step(50, -1, 0, 1));
    Check.argument(() -> x.step(50, 0, 100, 1));
    Check.argument(() -> x.step(50, 0, -1, 1));
    Check.argument(() -> x.step(50, 0, 0, 10));
    Check.argument(() -> x.step(50, 0, 0, 0));
    Check.promise(10);
    x.put(1, 1);
    int[][] patterns = {{0, 0, 1}, {3, 99, 9}, {1, 1, 2}};
    for (int[] rule : patterns) {
      x.pattern(2, 1, rule[0], rule[1], rule[2]);
      for (int what = 0; what < 3; what++) {
        Check.is(x.ofStep(2, what), rule[what]);
      }
      Check.is(x.ofStep(2, 3), NONE);
      Check.is(x.ofStep(2, 4), 1);
    }
    Check.argument(() -> x.pattern(2, 1, 4, 0, 1));
    Check.argument(() -> x.pattern(2, 1, -1, 0, 1));
    Check.argument(() -> x.pattern(2, 1, 0, 100, 1));
    Check.argument(() -> x.pattern(2, 1, 0, -1, 1));
    Check.argument(() -> x.pattern(2, 1, 0, 0, 10));
    Check.argument(() -> x.pattern(2, 1, 0, 0, 0));
    Check.is(x.ofStep(2, 0), 1);
    // at the ends of LENGTH it takes so long
    x.step(60, 0, 0, 1);
    Check.is(x.build(60, 1, 0), 1);
    x.step(61, 0, 0, 9);
    Check.is(x.build(61, 1, 0), 9);
  }

  /** "A row of at most 6 NEEDS, each a NAME, none twice." */
  private static void sixNeeds() {
    Check.promise(7);
    Buildkeeper x = new Buildkeeper();
    x.step(10, 0, 0, 1);
    Check.is(x.ofStep(10, 4), 0);
    for (int i = 1; i <= 6; i++) {
      Check.is(x.need(10, i), i);
      int again = i;
      Check.state(() -> x.need(10, again));
      Check.state(() -> x.need(10, 1));
      Check.is(x.ofStep(10, 4), i);
    }
    Check.state(() -> x.need(10, 7));
    Check.is(x.needOf(10, 5), 6);
    Check.argument(() -> x.needOf(10, 6));
    Check.is(x.unneed(10, 5), 6);
    Check.is(x.need(10, 7), 6);
    Check.state(() -> x.need(10, 8));
    // what went can come again
    Check.is(x.unneed(10, 0), 1);
    Check.is(x.need(10, 1), 6);
    Check.is(x.needOf(10, 5), 1);
    // the needs of the last name and of its neighbour
    x.step(99, 0, 0, 1);
    x.step(98, 0, 0, 1);
    for (int i = 1; i <= 6; i++) {
      Check.is(x.need(99, i), i);
      Check.is(x.need(98, i + 10), i);
    }
    Check.is(x.unneed(99, 5), 6);
    Check.is(x.needOf(99, 4), 5);
    Check.is(x.needOf(98, 5), 16);
  }

  /** "A NEED goes; those behind it move up." */
  private static void needsMoveUp() {
    Check.promise(8);
    for (int place = 0; place < 6; place++) {
      Buildkeeper x = new Buildkeeper();
      x.step(99, 0, 0, 1);
      x.step(98, 0, 0, 1);
      for (int i = 0; i < 6; i++) {
        x.need(99, 20 + i);
        x.need(98, 30 + i);
      }
      Check.is(x.unneed(99, place), 20 + place);
      for (int i = 0; i < 5; i++) {
        Check.is(x.needOf(99, i), i < place ? 20 + i : 21 + i);
      }
      Check.is(x.ofStep(99, 4), 5);
      Check.argument(() -> x.unneed(99, 5));
      Check.is(x.needOf(98, 5), 35);
      for (int i = 4; i >= 0; i--) {
        x.unneed(99, i);
      }
      Check.argument(() -> x.unneed(99, 0));
      Check.is(x.ofStep(99, 4), 0);
    }
  }

  /** "PATTERNS: at most 4 ...; no two have the same to." */
  private static void fourPatterns() {
    Check.promise(10);
    Buildkeeper x = new Buildkeeper();
    Check.is(x.pattern(0, 9, 0, 0, 1), 1);
    Check.is(x.pattern(0, 8, 0, 0, 1), 1);
    Check.is(x.pattern(1, 9, 0, 0, 1), 2);
    Check.is(x.pattern(2, 9, 0, 0, 1), 3);
    Check.is(x.pattern(3, 9, 0, 0, 1), 4);
    Check.state(() -> x.pattern(4, 9, 0, 0, 1));
    Check.is(x.pattern(3, 8, 0, 0, 1), 4);
    Check.is(x.unpattern(0), 3);
    Check.is(x.pattern(4, 9, 0, 0, 1), 4);
    Check.state(() -> x.pattern(0, 9, 0, 0, 1));
    Check.is(x.unpattern(9), REFUSED);
    Check.is(x.unpattern(4), 3);
    Check.is(x.unpattern(3), 2);
    Check.is(x.unpattern(2), 1);
    Check.is(x.unpattern(1), 0);
    Check.is(x.unpattern(1), REFUSED);
    Check.is(x.house(2), 0);
  }

  /** "If the NAME with the same STEM and the ENDING from is a SOURCE or a PRODUCT (of an own STEP, or of a PATTERN)." */
  private static void productsOfPatterns() {
    Check.promise(10);
    Buildkeeper x = new Buildkeeper();
    // told from the last one of the chain on, and from the first one on
    x.pattern(4, 3, 0, 0, 1);
    x.pattern(3, 2, 0, 0, 1);
    x.pattern(2, 1, 0, 0, 1);
    x.pattern(1, 0, 0, 0, 1);
    Check.is(x.ofName(4, 0), 0);
    x.put(0, 7);
    Check.is(x.ofName(4, 0), 3);
    Check.is(x.ofName(4, 4), 4);
    Check.is(x.ofName(5, 0), 0);
    x.drop(0);
    Check.is(x.ofName(1, 0) + x.ofName(4, 0), 0);
    // of a group, of a head, of a second product
    x.step(10, 6, 0, 1);
    x.step(20, 0, 0, 1);
    x.second(20, 30);
    for (int stem = 10; stem <= 30; stem += 10) {
      for (int ending = 1; ending <= 4; ending++) {
        Check.is(x.ofName(stem + ending, 0), 3);
        Check.is(x.ofName(stem + ending, 2), stem + ending);
        Check.is(x.needOf(stem + ending, 0), stem + ending - 1);
        Check.is(x.ofStep(stem + ending, 4), 1);
        Check.is(x.ofStep(stem + ending, 3), NONE);
      }
    }
    Check.is(x.build(34, 1, 0), 5);
    Check.is(x.text(34), "0");
    Check.is(x.build(14, 1, 0), 4);
    Check.is(x.text(14), "-");
    Check.is(x.readSum(11, 0), 0);
    x.unpattern(2);
    Check.is(x.ofName(31, 0), 3);
    Check.is(x.ofName(32, 0) + x.ofName(33, 0) + x.ofName(34, 0), 0);
    x.strike(20);
    Check.is(x.ofName(31, 0) + x.ofName(21, 0), 0);
    Check.is(x.ofName(11, 0), 3);
  }

  /** "A NAME n that is neither a SOURCE nor a PRODUCT of an own STEP." */
  private static void whatStandsInTheWay() {
    Check.promise(10);
    Buildkeeper x = new Buildkeeper();
    x.put(0, 7);
    x.put(1, 8);
    x.put(10, 7);
    x.step(11, 2, 0, 1);
    x.put(20, 7);
    x.step(50, 2, 0, 1);
    x.second(50, 21);
    x.put(30, 7);
    x.pattern(1, 0, 0, 0, 1);
    Check.is(x.ofName(1, 0), 1);
    Check.is(x.ofName(11, 0), 2);
    Check.is(x.ofName(21, 0), 2);
    Check.is(x.ofName(31, 0), 3);
    Check.is(x.ofName(51, 0), 3);
    x.drop(1);
    x.strike(11);
    x.second(50, 50);
    Check.is(x.ofName(1, 0), 3);
    Check.is(x.ofName(11, 0), 3);
    Check.is(x.ofName(21, 0), 3);
    x.strike(50);
    Check.is(x.ofName(51, 0), 0);
  }

  /** "FAULTS of a STEP (0 to 9; 0 at first): how many of its next TRIES fail." */
  private static void faults() {
    Check.promise(12);
    Buildkeeper x = new Buildkeeper();
    x.step(10, 0, 0, 1);
    Check.is(x.ofStep(10, 5), 0);
    Check.is(x.fault(10, 9), 0);
    Check.argument(() -> x.fault(10, 10));
    Check.argument(() -> x.fault(10, -1));
    Check.is(x.ofStep(10, 5), 9);
    for (int left = 8; left >= 0; left--) {
      x.build(10, 1, 0);
      Check.is(x.ofBuild(10, 0), FAILED);
      Check.is(x.ofStep(10, 5), left);
    }
    x.build(10, 1, 0);
    Check.is(x.ofBuild(10, 0), DONE);
    Check.is(x.ofStep(10, 5), 0);
    // told anew, and told to be none
    x.fault(10, 2);
    Check.is(x.fault(10, 1), 2);
    Check.is(x.fault(10, 0), 1);
    x.remove(10);
    x.build(10, 1, 0);
    Check.is(x.ofBuild(10, 0), DONE);
    // a step that is clean tries nothing
    x.fault(10, 1);
    x.build(10, 1, 0);
    Check.is(x.ofStep(10, 5), 1);
  }

  /** "RETRIES (0 at first)", 0 to 3: "if it had at most RETRIES failed TRIES in this BUILD with this one". */
  private static void retries() {
    Check.promise(13);
    Buildkeeper y = new Buildkeeper();
    Check.is(y.mode(true, 3), 0);
    Check.argument(() -> y.mode(true, 4));
    Check.argument(() -> y.mode(true, -1));
    Check.is(y.mode(false, 0), 3);
    for (int retries = 0; retries <= 3; retries++) {
      for (int faults = 0; faults <= 9; faults++) {
        Buildkeeper x = new Buildkeeper();
        x.mode(true, retries);
        x.step(10, 0, 0, 2);
        x.fault(10, faults);
        int tries = Math.min(faults, retries) + 1;
        Check.is(x.build(10, 1, 0), 2 * tries);
        Check.is(x.ofBuild(10, 0), faults <= retries ? DONE : FAILED);
        Check.is(x.ofBuild(10, 1), faults <= retries ? 1 : 7);
        Check.is(x.ofBuild(10, 5), tries);
        Check.is(x.ofStep(10, 5), Math.max(0, faults - tries));
        Check.is(x.ofStep(10, 9), faults <= retries ? 2 * tries : NONE);
      }
    }
  }

  /** Every KIND without NEEDS, and with needs that are empty. */
  private static void emptyJoins() {
    Check.promise(18);
    String[] due = {"-", "-", "0", "-", "-", "-", "-"};
    for (int kind = 0; kind <= 6; kind++) {
      for (int parameter = 0; parameter <= 99; parameter += 99) {
        Buildkeeper x = new Buildkeeper();
        x.put(1, 1);
        x.wipe(1);
        x.step(10, kind, parameter, 1);
        x.second(10, 11);
        result(x, 10, due[kind]);
        Check.is(x.text(11), kind == 6 ? "-" : kind == 2 ? "1" : "0");
        x.need(10, 1);
        result(x, 10, due[kind]);
        x.step(20, 6, 0, 1);
        x.need(10, 20);
        result(x, 10, due[kind]);
        Check.is(x.text(11), kind == 6 ? "-" : kind == 2 ? "1" : "0");
      }
    }
  }

  /** "If the RESULT would have more than 8 NUMBERS, it FAILED (REASON 8)." */
  private static void eightNumbersAndNine() {
    Check.promise(18);
    String[] seven = {"3 1 2 0 99 5 4", "0 1 2 3 4 5 99", "7", "3 1 2 0 99 5 4"};
    String[] eight = {"3 1 2 0 99 5 4 0", "0 0 1 2 3 4 5 99", "8", "3 1 2 0 99 5 4 0"};
    String[] nine = {"failed 8", "failed 8", "9", "failed 8"};
    for (int kind = 0; kind <= 3; kind++) {
      Buildkeeper x = new Buildkeeper();
      Scenes.put(x, 1, 3, 1, 2, 0, 99);
      Scenes.put(x, 2, 5, 4);
      x.step(10, kind, 9, 1);
      x.need(10, 1);
      x.need(10, 2);
      result(x, 10, seven[kind]);
      x.put(2, 0);
      result(x, 10, eight[kind]);
      x.put(2, 0);
      result(x, 10, nine[kind]);
      if (kind != 2) {
        // what failed keeps its product and its record
        Check.is(x.text(10), eight[kind]);
        Check.is(x.ofBuild(10, 2), NONE);
        Check.is(x.readSum(10, 1), (6 * 101 + 5) * 101 + 1);
        Check.is(x.ofStep(10, 6), 2);
      }
    }
  }

  /** "3: of JOIN the first PARAMETER ones (all, if there are no more)." */
  private static void thePartOfJoin() {
    Check.promise(18);
    String[] due = {"-", "1", "1 2", "1 2 3", "1 2 3 4", "1 2 3 4", "1 2 3 4"};
    Buildkeeper x = new Buildkeeper();
    Scenes.put(x, 1, 1, 2, 3);
    x.put(2, 4);
    for (int parameter = 0; parameter <= 6; parameter++) {
      x.step(10, 3, parameter, 1);
      if (parameter == 0) {
        x.need(10, 1);
        x.need(10, 2);
      }
      result(x, 10, due[parameter]);
    }
    x.step(10, 3, 99, 1);
    result(x, 10, "1 2 3 4");
    // only what is left of it has to have at most 8
    Scenes.put(x, 2, 5, 6, 7, 8, 9, 10);
    x.step(10, 3, 8, 1);
    result(x, 10, "1 2 3 4 5 6 7 8");
    x.step(10, 3, 9, 1);
    result(x, 10, "failed 8");
    x.step(10, 3, 7, 1);
    result(x, 10, "1 2 3 4 5 6 7");
  }

  /** "5: of JOIN the NUMBERS that are PARAMETER or more." */
  private static void numbersOfParameterOrMore() {
    Check.promise(18);
    Buildkeeper x = new Buildkeeper();
    Scenes.put(x, 1, 50, 0, 51, 49, 99);
    int[] parameters = {0, 1, 49, 50, 51, 52, 98, 99};
    String[] due = {"50 0 51 49 99", "50 51 49 99", "50 51 49 99", "50 51 99", "51 99", "99", "99", "99"};
    x.step(10, 5, 0, 1);
    x.need(10, 1);
    for (int i = 0; i < parameters.length; i++) {
      x.step(10, 5, parameters[i], 1);
      result(x, 10, due[i]);
    }
    x.wipe(1);
    Scenes.put(x, 1, 98, 97);
    result(x, 10, "-");
    // nine numbers, of which eight are left
    Scenes.put(x, 1, 1, 2, 3, 4, 5, 6);
    x.put(2, 0);
    x.need(10, 2);
    x.step(10, 5, 1, 1);
    result(x, 10, "98 97 1 2 3 4 5 6");
    x.step(10, 5, 0, 1);
    result(x, 10, "failed 8");
  }

  /** "2: one NUMBER, how many NUMBERS these are", of six needs with eight each. */
  private static void manyNumbersCounted() {
    Check.promise(18);
    Buildkeeper x = new Buildkeeper();
    int[] kinds = {2, 3, 5, 0, 1};
    for (int i = 0; i < kinds.length; i++) {
      x.step(10 + i, kinds[i], 8, 1);
    }
    for (int name = 1; name <= 6; name++) {
      Scenes.put(x, name, name, name, name, name, name, name, name, name + 2);
      for (int i = 0; i < kinds.length; i++) {
        x.need(10 + i, name);
      }
    }
    x.second(10, 19);
    result(x, 10, "48");
    Check.is(x.text(19), "1");
    result(x, 11, "1 1 1 1 1 1 1 3");
    result(x, 12, "8");
    result(x, 13, "failed 8");
    result(x, 14, "failed 8");
    x.wipe(6);
    result(x, 10, "40");
    result(x, 12, "-");
  }

  /** "INCLUDE: ... (in this order; again, if they come again; none without a NEED); JOIN of their CONTENTS, then of those of the other NEEDS." */
  private static void included() {
    Check.promise(18);
    Buildkeeper x = new Buildkeeper();
    Scenes.put(x, 0, 1);
    Scenes.put(x, 99, 2, 3);
    Scenes.put(x, 1, 99, 0, 99);
    Scenes.put(x, 2, 50);
    x.step(10, 4, 7, 1);
    result(x, 10, "-");
    Check.is(x.ofStep(10, 8), 0);
    x.need(10, 1);
    result(x, 10, "2 3 1 2 3");
    Check.is(x.ofStep(10, 8), 4);
    x.need(10, 2);
    x.need(10, 0);
    result(x, 10, "2 3 1 2 3 50 1");
    Check.is(x.ofStep(10, 8), 6);
    // the first need has found itself: it is found, and read twice
    x.wipe(1);
    x.put(1, 1);
    result(x, 10, "1 50 1");
    Check.is(x.readOf(10, 0), 1);
    Check.is(x.readOf(10, 3), 1);
    // the first need alone tells what is found
    x.unneed(10, 0);
    x.unneed(10, 0);
    result(x, 10, "1");
    Check.is(x.readOf(10, 0), 0);
    Check.is(x.readOf(10, 1), 1);
    Check.is(x.readOf(10, 2), NONE);
  }

  /** A first need with eight numbers, and six needs: fourteen names are read. */
  private static void eightFound() {
    Check.promise(18);
    Buildkeeper x = new Buildkeeper();
    Scenes.put(x, 1, 11, 12, 13, 14, 15, 16, 17, 18);
    for (int i = 1; i <= 8; i++) {
      x.put(10 + i, i);
    }
    x.step(98, 4, 0, 1);
    x.step(99, 4, 0, 1);
    x.need(99, 1);
    result(x, 99, "1 2 3 4 5 6 7 8");
    for (int i = 2; i <= 6; i++) {
      x.put(i, 90 + i);
      x.wipe(i);
      x.need(99, i);
    }
    result(x, 99, "1 2 3 4 5 6 7 8");
    Check.is(x.ofStep(99, 8), 14);
    for (int place = 0; place < 14; place++) {
      Check.is(x.readOf(99, place), place < 6 ? 1 + place : 5 + place);
      Check.is(x.readSum(99, place), place == 0 ? x.sum(1) : place < 6 ? 0 : place - 4);
    }
    Check.is(x.readOf(99, 14), NONE);
    Check.is(x.readSum(99, 14), NONE);
    x.build(99, 1, 0);
    Check.is(x.last(5), 1);
    x.put(6, 0);
    result(x, 99, "failed 8");
    // eight times eight numbers are found, and five times eight are needed
    x.wipe(6);
    for (int i = 11; i <= 18; i++) {
      Scenes.put(x, i, 1, 1, 1, 1, 1, 1, 1);
    }
    for (int i = 2; i <= 6; i++) {
      Scenes.put(x, i, 2, 2, 2, 2, 2, 2, 2, 2);
    }
    result(x, 99, "failed 8");
    Check.is(x.scratch(99), "?");
  }

  /** "6 GROUP: nothing (it only stands for its NEEDS; it makes no PRODUCT that is THERE, also no second one)." */
  private static void groupsMakeNothing() {
    Check.promise(18);
    Buildkeeper x = Scenes.small();
    x.step(20, 6, 0, 9);
    x.second(20, 29);
    Check.is(x.build(20, 1, 0), 0);
    Check.is(x.ofBuild(20, 0), 8);
    Check.is(x.trace(), "-");
    x.need(20, 11);
    Check.is(x.build(29, 1, 0), 6);
    Check.is(x.house(3), 3);
    Check.is(x.alter(20, 1), REFUSED);
    Check.is(x.remove(29), REFUSED);
    Check.is(x.ofStep(20, 8), NONE);
    Check.is(x.ofStep(20, 6), 0);
    // what needs it reads a content without numbers
    x.step(30, 2, 0, 1);
    x.need(30, 20);
    x.need(30, 29);
    result(x, 30, "0");
    Check.is(x.ofStep(30, 8), 2);
    Check.is(x.readSum(30, 1), 0);
  }

  /** "A second PRODUCT gets one NUMBER, how many NUMBERS the RESULT has": 0, 1 and 8. */
  private static void secondProducts() {
    Check.promise(6);
    Buildkeeper x = new Buildkeeper();
    x.put(1, 9);
    x.wipe(1);
    x.step(10, 0, 0, 1);
    x.need(10, 1);
    x.second(10, 19);
    int[] sizes = {0, 1, 8};
    for (int size : sizes) {
      while (x.ofName(1, 1) < size) {
        x.put(1, 9);
      }
      x.build(19, 1, 0);
      Check.is(x.text(19), "" + size);
      Check.is(x.ofName(19, 1), 1);
    }
    // "the HEAD itself if it is to have none"
    Check.is(x.second(10, 10), 19);
    Check.is(x.ofStep(10, 3), NONE);
    Check.is(x.ofName(19, 0), 0);
    Check.is(x.second(10, 10), NONE);
    Check.is(x.text(10), "9 9 9 9 9 9 9 9");
    Check.is(x.build(10, 1, 0), 0);
  }

  /** "A RING is one that leads from a NAME to itself (by told NEEDS alone)": what is found makes none. */
  private static void ringsByToldNeedsAlone() {
    Check.promise(33);
    Buildkeeper x = new Buildkeeper();
    x.put(1, 10);
    x.step(10, 4, 0, 1);
    x.need(10, 1);
    Check.is(x.ring(10), "");
    Check.is(x.reaches(10, 10), false);
    Check.is(x.build(10, 1, 0), 0);
    Check.is(x.ofBuild(10, 1), 10);
    Check.is(x.ways(10, 1), 1);
    // the last need that closes one is refused, so only a second product or a pattern can close it
    x.step(20, 0, 0, 1);
    x.step(21, 0, 0, 1);
    x.need(20, 21);
    Check.is(x.need(21, 20), REFUSED);
    Check.is(x.need(21, 29), 1);
    Check.is(x.build(10, 1, 0), 0);
    x.second(20, 29);
    Check.is(x.ring(29), "29>21>29");
    Check.is(x.ring(21), "21>29>21");
    Check.is(x.ring(20), "");
    Check.is(x.build(10, 1, 0), REFUSED);
    x.unneed(21, 0);
    Check.is(x.build(10, 1, 0), 0);
  }

  /** "Strikes an own STEP. Returns how many own STEPS are left." */
  private static void struckSteps() {
    Check.promise(9);
    Buildkeeper x = new Buildkeeper();
    for (int head = 0; head < 24; head++) {
      x.step(head, 0, 0, 1);
      x.second(head, 99 - head);
    }
    for (int head = 0; head < 24; head++) {
      Check.is(x.strike(head), 23 - head);
      Check.is(x.ofName(head, 0), 0);
      Check.is(x.ofName(99 - head, 0), 0);
    }
    Check.is(x.house(1), 0);
    Check.state(() -> x.strike(0));
    for (int head = 23; head >= 0; head--) {
      Check.is(x.step(head, 0, 0, 1), 24 - head);
      Check.is(x.ofStep(head, 3), NONE);
    }
  }
}
