/** Section 5 of the document and promises 42, 19 (MARKED), 40, 41 and 49: each condition by itself. */
public final class EdgesOfScratchTest {
  private static final int NONE = -1;

  public static void main(String[] args) {
    scratchOfSources();
    scratchOfSteps();
    thereIsNoneOfTooMuch();
    thereIsNoneOfWhatNeedsItself();
    thereIsNoneOfWhatFindsItself();
    scratchOfGroups();
    whatIsThereDoesNotMatter();
    markedByAReason();
    markedByWhatHasNoContent();
    markedByAWay();
    markedByARecord();
    markedByPatterns();
    wouldAnswersAsABuildDoes();
    wouldDoesNothingAgain();
    wouldHasTheWholeCache();
    wouldHasAnEmptyCache();
    soundOrNot();
    Check.end();
  }

  private static void tell(Buildkeeper x, int head, int kind, int parameter, int... needs) {
    x.step(head, kind, parameter, 2);
    for (int need : needs) {
      x.need(head, need);
    }
  }

  private static void scratchOfSources() {
    Check.promise(42);
    Buildkeeper x = new Buildkeeper();
    Check.is(x.scratch(0), "?");
    x.put(0, 0);
    Check.is(x.scratch(0), "0");
    Check.is(x.scratch(1), "?");
    x.wipe(0);
    Check.is(x.scratch(0), "-");
    Scenes.put(x, 0, 1, 2, 3, 4, 5, 6, 7, 8);
    Check.is(x.scratch(0), "1 2 3 4 5 6 7 8");
    x.drop(0);
    Check.is(x.scratch(0), "?");
    x.put(99, 99);
    Check.is(x.scratch(99), "99");
  }

  private static void scratchOfSteps() {
    Check.promise(42);
    Buildkeeper x = new Buildkeeper();
    Scenes.put(x, 1, 4, 2, 3);
    String[] due = {"4 2 3", "2 3 4", "3", "4 2", "?", "4 2 3", "-"};
    String[] seconds = {"3", "3", "1", "2", "?", "3", "-"};
    for (int kind = 0; kind <= 6; kind++) {
      tell(x, 10 + kind, kind, 2, 1);
      x.second(10 + kind, 20 + kind);
      Check.is(x.scratch(10 + kind), due[kind]);
      Check.is(x.scratch(20 + kind), seconds[kind]);
      // and through one another, by both products
      tell(x, 30 + kind, 0, 0, 20 + kind, 10 + kind);
      String both = kind == 4 ? "?" : kind == 6 ? "-" : seconds[kind] + " " + due[kind];
      Check.is(x.scratch(30 + kind), both);
    }
    // "if there is none of one of these", or the NAME is nothing
    x.need(10, 50);
    Check.is(x.scratch(50), "?");
    Check.is(x.scratch(10) + x.scratch(20) + x.scratch(30), "???");
    x.put(50, 9);
    Check.is(x.scratch(20), "4");
    // nothing was made by that
    Check.is(x.house(3), 0);
    Check.is(x.text(10), "?");
  }

  private static void thereIsNoneOfTooMuch() {
    Check.promise(42);
    Buildkeeper x = new Buildkeeper();
    Scenes.put(x, 1, 1, 2, 3, 4, 5, 6, 7, 8);
    x.put(2, 0);
    x.wipe(2);
    tell(x, 10, 0, 0, 1, 2);
    x.second(10, 19);
    Check.is(x.scratch(10), "1 2 3 4 5 6 7 8");
    Check.is(x.scratch(19), "8");
    x.put(2, 9);
    Check.is(x.scratch(10) + x.scratch(19), "??");
    x.step(10, 3, 8, 1);
    Check.is(x.scratch(10), "1 2 3 4 5 6 7 8");
    x.step(10, 3, 9, 1);
    Check.is(x.scratch(10), "?");
    x.step(10, 2, 9, 1);
    Check.is(x.scratch(10), "9");
    x.step(10, 5, 2, 1);
    Check.is(x.scratch(10), "2 3 4 5 6 7 8 9");
    x.step(10, 5, 1, 1);
    Check.is(x.scratch(10), "?");
  }

  private static void thereIsNoneOfWhatNeedsItself() {
    Check.promise(42);
    Buildkeeper x = Scenes.ringed();
    Check.is(x.scratch(30) + x.scratch(31), "??");
    tell(x, 40, 2, 0, 31);
    Check.is(x.scratch(40), "?");
    Check.is(x.scratch(11), "2 3 5");
    tell(x, 41, 6, 0, 40);
    Check.is(x.scratch(41), "?");
    x.second(30, 30);
    x.put(31, 1);
    Check.is(x.scratch(30) + x.scratch(40) + x.scratch(41), "11-");
  }

  private static void thereIsNoneOfWhatFindsItself() {
    Check.promise(42);
    Buildkeeper x = new Buildkeeper();
    x.put(1, 10);
    x.put(2, 9);
    tell(x, 10, 4, 0, 1);
    x.second(10, 19);
    tell(x, 20, 0, 0, 10);
    Check.is(x.scratch(10), "?");
    Check.is(x.scratch(20), "?");
    x.wipe(1);
    x.put(1, 19);
    Check.is(x.scratch(10) + x.scratch(19), "??");
    // through another one
    x.wipe(1);
    Scenes.put(x, 1, 2, 20);
    Check.is(x.scratch(10) + x.scratch(20), "??");
    x.unneed(20, 0);
    Check.is(x.scratch(10), "9");
    Check.is(x.scratch(20), "-");
    // its first need is no name that it finds, but may be found, too
    x.put(1, 1);
    Check.is(x.scratch(10), "9 2 20 1");
    // nothing that is found
    x.put(1, 98);
    Check.is(x.scratch(10), "?");
    // without a need it has found nothing
    x.unneed(10, 0);
    Check.is(x.scratch(10) + x.scratch(19), "-0");
  }

  private static void scratchOfGroups() {
    Check.promise(42);
    Buildkeeper x = new Buildkeeper();
    tell(x, 10, 6, 0);
    x.second(10, 19);
    Check.is(x.scratch(10) + x.scratch(19), "--");
    x.need(10, 1);
    Check.is(x.scratch(10) + x.scratch(19), "??");
    Check.is(x.text(10), "-");
    x.put(1, 5);
    Check.is(x.scratch(10) + x.scratch(19), "--");
    tell(x, 20, 2, 0, 10, 19, 1);
    Check.is(x.scratch(20), "1");
    // it finds by a group nothing, if there is one of it
    tell(x, 30, 4, 0, 10, 1);
    Check.is(x.scratch(30), "5");
    x.drop(1);
    Check.is(x.scratch(30), "?");
  }

  /** What was made, altered, removed or failed is not asked for; nor are faults and the cache. */
  private static void whatIsThereDoesNotMatter() {
    Check.promise(42);
    Buildkeeper x = Scenes.small();
    x.cache(3);
    x.build(11, 1, 0);
    x.alter(10, 99);
    x.remove(19);
    x.fault(11, 9);
    x.poison(0, 7);
    x.poison(1, 7);
    Check.is(x.scratch(10), "5 3");
    Check.is(x.scratch(19), "2");
    Check.is(x.scratch(11), "2 3 5");
    x.put(1, 0);
    Check.is(x.scratch(11), "0 3 3 5");
    x.drop(1);
    Check.is(x.scratch(11), "?");
  }

  /** 10, with 19, joins 1; 20 joins 10; both were built. */
  private static Buildkeeper built() {
    Buildkeeper x = new Buildkeeper();
    x.put(1, 5);
    tell(x, 10, 0, 0, 1);
    x.second(10, 19);
    tell(x, 20, 0, 0, 10);
    tell(x, 30, 6, 0, 20);
    x.build(30, 1, 0);
    return x;
  }

  private static void marks(Buildkeeper x, int... due) {
    int[] names = {1, 10, 19, 20, 30};
    for (int i = 0; i < names.length; i++) {
      Check.is(x.ofName(names[i], 5), due[i]);
    }
  }

  private static void markedByAReason() {
    Check.promise(19);
    Buildkeeper x = built();
    marks(x, 0, 0, 0, 0, 0);
    x.put(1, 6);
    marks(x, 0, 1, 1, 1, 1);
    x.wipe(1);
    x.put(1, 5);
    marks(x, 0, 0, 0, 0, 0);
    x.step(10, 0, 1, 1);
    marks(x, 0, 1, 1, 1, 1);
    x.step(10, 0, 0, 9);
    marks(x, 0, 0, 0, 0, 0);
    x.put(2, 1);
    x.need(20, 2);
    marks(x, 0, 0, 0, 1, 1);
    x.unneed(20, 1);
    x.remove(20);
    marks(x, 0, 0, 0, 1, 1);
    x.build(20, 1, 0);
    marks(x, 0, 0, 0, 0, 0);
    x.alter(19, 2);
    marks(x, 0, 1, 1, 1, 1);
    x.alter(19, 1);
    marks(x, 0, 0, 0, 0, 0);
    x.second(10, 10);
    marks(x, 0, 0, 0, 0, 0);
    x.second(10, 19);
    marks(x, 0, 1, 1, 1, 1);
    Check.is(new Buildkeeper().ofName(0, 5), 0);
  }

  /** "Or a NAME that it READS has no CONTENT now": also a step that has a record without it, whose sum would be 0. */
  private static void markedByWhatHasNoContent() {
    Check.promise(19);
    Buildkeeper x = new Buildkeeper();
    x.put(1, 1);
    x.wipe(1);
    tell(x, 10, 0, 0, 1);
    x.build(10, 1, 0);
    Check.is(x.ofName(10, 5), 0);
    // the sum that was read is 0, as is that of nothing
    x.drop(1);
    Check.is(x.ofName(10, 5), 1);
    x.step(1, 6, 0, 1);
    Check.is(x.ofName(10, 5), 0);
    x.step(1, 0, 0, 1);
    Check.is(x.ofName(10, 5), 1);
    x.build(1, 1, 0);
    Check.is(x.ofName(10, 5), 0);
    // what is found has no content now
    Buildkeeper y = new Buildkeeper();
    y.put(1, 2);
    y.put(2, 1);
    y.wipe(2);
    tell(y, 10, 4, 0, 1);
    y.build(10, 1, 0);
    Check.is(y.ofName(10, 5), 0);
    y.drop(2);
    Check.is(y.ofName(10, 5), 1);
    y.step(2, 6, 0, 1);
    Check.is(y.ofName(10, 5), 0);
    // a group is not marked by what it reads
    y.need(2, 50);
    Check.is(y.ofName(2, 5), 0);
    Check.is(y.ofName(10, 5), 0);
  }

  private static void markedByAWay() {
    Check.promise(19);
    Buildkeeper x = new Buildkeeper();
    x.put(0, 1);
    tell(x, 99, 0, 0, 0);
    int[] chain = {5, 95, 6, 94, 7, 93};
    int below = 99;
    for (int head : chain) {
      tell(x, head, head == 6 ? 6 : 0, 0, below);
      x.second(head, head + (head < 50 ? 10 : -10));
      below = head;
    }
    x.build(93, 1, 0);
    for (int head : chain) {
      Check.is(x.ofName(head, 5), 0);
    }
    x.alter(99, 5);
    for (int head : chain) {
      Check.is(x.ofName(head, 5), 1);
      Check.is(x.ofName(head + (head < 50 ? 10 : -10), 5), 1);
    }
    Check.is(x.ofName(0, 5), 0);
    x.alter(99, 1);
    x.remove(7);
    int[] due = {0, 0, 0, 0, 1, 1};
    for (int i = 0; i < 6; i++) {
      Check.is(x.ofName(chain[i], 5), due[i]);
    }
    // a ring is marked all round
    Buildkeeper y = Scenes.ringed();
    Check.is(y.ofName(30, 5) + y.ofName(31, 5), 2);
    Check.is(y.ofName(11, 5), 0);
  }

  /** "And of what RECORDS have FOUND". */
  private static void markedByARecord() {
    Check.promise(19);
    Buildkeeper x = new Buildkeeper();
    Scenes.put(x, 1, 20, 2);
    x.put(2, 1);
    tell(x, 20, 0, 0, 2);
    tell(x, 10, 4, 0, 1);
    tell(x, 30, 6, 0, 10);
    x.build(30, 1, 0);
    Check.is(x.ofName(10, 5) + x.ofName(30, 5), 0);
    // 20 is marked, its content is as it was
    x.step(20, 0, 1, 1);
    Check.is(x.ofName(20, 5), 1);
    Check.is(x.ofName(10, 5), 1);
    Check.is(x.ofName(30, 5), 1);
    x.step(20, 0, 0, 1);
    Check.is(x.ofName(10, 5) + x.ofName(30, 5), 0);
    // a group that was found leads on to what is marked
    x.wipe(1);
    x.put(1, 40);
    tell(x, 40, 6, 0, 20);
    x.build(30, 1, 0);
    Check.is(x.ofName(30, 5), 0);
    x.remove(20);
    Check.is(x.ofName(40, 5), 1);
    Check.is(x.ofName(10, 5), 1);
    Check.is(x.ofName(30, 5), 1);
    // no need leads there
    Check.is(x.reaches(10, 40), false);
    // a need that went, and one that is found no more, lead nowhere once that is built
    Buildkeeper y = new Buildkeeper();
    y.put(2, 1);
    tell(y, 20, 0, 0, 2);
    tell(y, 21, 0, 0, 2);
    tell(y, 30, 0, 0, 21, 20);
    Scenes.put(y, 1, 21, 20);
    tell(y, 31, 4, 0, 1);
    tell(y, 40, 6, 0, 30, 31);
    y.build(40, 1, 0);
    y.unneed(30, 1);
    y.wipe(1);
    y.put(1, 21);
    Check.is(y.ofName(30, 5) + y.ofName(31, 5), 2);
    y.build(40, 1, 0);
    y.step(20, 0, 1, 1);
    Check.is(y.ofName(20, 5), 1);
    Check.is(y.ofName(30, 5) + y.ofName(31, 5) + y.ofName(40, 5), 0);
    y.step(21, 0, 1, 1);
    Check.is(y.ofName(30, 5) + y.ofName(31, 5) + y.ofName(40, 5), 3);
  }

  private static void markedByPatterns() {
    Check.promise(19);
    Buildkeeper x = new Buildkeeper();
    x.put(91, 4);
    x.pattern(2, 1, 0, 0, 1);
    x.pattern(3, 2, 0, 0, 1);
    Check.is(x.ofName(92, 5) + x.ofName(93, 5), 2);
    x.build(92, 1, 0);
    Check.is(x.ofName(92, 5), 0);
    Check.is(x.ofName(93, 5), 1);
    x.build(93, 1, 0);
    Check.is(x.ofName(93, 5), 0);
    x.pattern(2, 1, 0, 1, 1);
    Check.is(x.ofName(93, 5), 1);
    x.unpattern(2);
    Check.is(x.ofName(92, 5) + x.ofName(93, 5), 0);
    x.pattern(2, 1, 0, 0, 9);
    Check.is(x.ofName(92, 5) + x.ofName(93, 5), 0);
  }

  /** would() of 2 to 11 and wouldDo() against the BUILD that is made then. */
  private static void wouldAnswersAsABuildDoes() {
    for (int hands = 1; hands <= 6; hands++) {
      for (int retries = 0; retries <= 3; retries++) {
        Buildkeeper x = Scenes.full();
        x.mode(hands % 2 == 0, retries);
        x.put(2, 99);
        int[] told = new int[12];
        Check.promise(40);
        for (int what = 2; what <= 11; what++) {
          told[what] = x.would(14, hands, what);
        }
        int first = x.wouldDo(14, 0);
        int second = x.wouldDo(14, 1);
        Check.is(x.would(14, hands, 2), told[2]);
        x.build(14, hands, 0);
        for (int what = 2; what <= 11; what++) {
          Check.is(x.last(what), told[what]);
        }
        Check.promise(41);
        if (hands == 1) {
          Check.is(isMade(x, first) && (second == NONE || isMade(x, second)), true);
          Check.is(second == NONE || first < second, true);
        }
      }
    }
    Check.promise(41);
    Buildkeeper x = Scenes.small();
    Check.is(x.wouldDo(11, 0), 10);
    Check.is(x.wouldDo(11, 1), 11);
    Check.is(x.wouldDo(11, 2), NONE);
    Check.is(x.wouldDo(10, 1), NONE);
    x.build(11, 1, 0);
    Check.is(x.wouldDo(11, 0), NONE);
    // with SHAKE 0, whatever was built before
    x.remove(11);
    x.build(11, 1, 3);
    x.remove(11);
    Check.promise(40);
    Check.is(x.would(11, 1, 2), 2);
    Check.is(x.last(2), 3);
  }

  /** The first one that asks would() after a BUILD finds all CLEAN, of each KIND. */
  private static void wouldDoesNothingAgain() {
    for (int kind = 0; kind <= 5; kind++) {
      Buildkeeper x = new Buildkeeper();
      Scenes.put(x, 1, 2, 3);
      Scenes.put(x, 2, 7);
      Scenes.put(x, 3, 8);
      tell(x, 10, kind, 4, 1);
      x.second(10, 19);
      x.build(10, 1, 0);
      Check.promise(40);
      Check.is(x.would(10, 1, 5), 1);
      Check.is(x.would(10, 1, 3) + x.would(10, 1, 4), 0);
      Check.promise(41);
      Check.is(x.wouldDo(10, 0), NONE);
    }
  }

  /** As many entries as there can be, of 12 steps: all of them would be FETCHED, and stay where they are. */
  private static void wouldHasTheWholeCache() {
    Check.promise(40);
    Buildkeeper x = new Buildkeeper();
    x.put(1, 5);
    x.cache(12);
    for (int head = 10; head < 22; head++) {
      tell(x, head, 3, head, 1);
      x.build(head, 1, 0);
      x.remove(head);
    }
    for (int group = 0; group < 2; group++) {
      tell(x, 30 + group, 6, 0);
      for (int i = 0; i < 6; i++) {
        x.need(30 + group, 10 + group * 6 + i);
      }
    }
    tell(x, 40, 6, 0, 30, 31);
    Check.is(x.would(40, 1, 6), 12);
    Check.is(x.would(40, 1, 3), 0);
    Check.is(x.cached(1), 12);
    Check.is(x.cached(2), 0);
    Check.promise(49);
    Check.is(x.isSound(), true);
    Check.promise(18);
    Check.is(x.build(40, 1, 0), 0);
    Check.is(x.last(6), 12);
    Check.is(x.cached(2), 12);
  }

  /** An empty CACHE is one, too: what would be put in would be FETCHED behind it; what it held before is gone. */
  private static void wouldHasAnEmptyCache() {
    Check.promise(40);
    Buildkeeper x = new Buildkeeper();
    x.put(1, 5);
    tell(x, 10, 0, 0, 1);
    tell(x, 20, 0, 0, 10);
    Check.is(x.would(20, 1, 3), 2);
    x.cache(1);
    Check.is(x.would(20, 1, 3), 1);
    Check.is(x.would(20, 1, 6), 1);
    x.build(20, 1, 0);
    Check.is(x.last(6), 1);
    Check.is(x.cached(1), 1);
    x.cache(0);
    x.cache(3);
    x.remove(10);
    x.remove(20);
    Check.is(x.would(10, 1, 3), 1);
    Check.is(x.would(10, 1, 6), 0);
    tell(x, 30, 0, 0);
    Check.is(x.would(30, 1, 3), 1);
    Check.is(x.would(30, 1, 6), 0);
    Check.is(x.cached(1), 0);
  }

  private static boolean isMade(Buildkeeper x, int head) {
    int state = x.ofBuild(head, 0);
    return state == 3 || state == 4;
  }

  /** Sound without steps, with groups alone, with a ring, with what can't be made, and after all that others did. */
  private static void soundOrNot() {
    Check.promise(49);
    Buildkeeper x = new Buildkeeper();
    Check.is(x.isSound(), true);
    tell(x, 50, 6, 0, 51);
    Check.is(x.isSound(), true);
    tell(x, 40, 0, 0, 41);
    Check.is(x.isSound(), true);
    x.put(41, 1);
    Check.is(x.isSound(), true);
    x.build(40, 1, 0);
    x.alter(40, 9);
    x.fault(40, 9);
    x.mode(false, 3);
    Check.is(x.isSound(), true);
    Check.is(x.text(40), "9");
    Check.is(x.ofStep(40, 5), 9);
    x.put(1, 40);
    tell(x, 30, 4, 0, 1);
    Check.is(x.isSound(), true);
    x.put(1, 30);
    Check.is(x.isSound(), true);
    Check.is(Scenes.ringed().isSound(), true);
    Check.is(Scenes.full().isSound(), true);
    Check.is(x.house(5), 0);
    Check.is(x.house(4), 1);
  }
}
