/** Section 3 of the document and promises 16, 17, 25, 26, 43 and 44: records, reasons and the cache, at each bound. */
public final class EdgesOfLookingTest {
  private static final int NONE = -1;
  private static final int REFUSED = -9;
  private static final int CLEAN = 1;
  private static final int FETCHED = 2;
  private static final int DONE = 3;
  private static final int SAME = 4;
  private static final int FAILED = 5;
  private static final int STOPPED = 7;

  public static void main(String[] args) {
    theFirstReasonThatIsSo();
    noRecord();
    anotherRule();
    otherNames();
    otherNamesFound();
    anotherSum();
    productsNotThere();
    anotherSumOfAProduct();
    whatItReads();
    bounds();
    boundsTold();
    theLatestOne();
    wrongOnes();
    keys();
    takesThePlace();
    counts();
    places();
    Check.end();
  }

  /** 10, with 19, joins 1 and 2, and was built; 12 is a group of it and of 11, which fails, so that nothing more is made. */
  private static Buildkeeper scene() {
    Buildkeeper x = new Buildkeeper();
    x.put(1, 5);
    x.put(2, 6);
    x.put(3, 7);
    Scenes.step(x, 10, 0, 1, 2);
    x.second(10, 19);
    x.build(10, 1, 0);
    Scenes.step(x, 11, 0, 90);
    Scenes.step(x, 12, 6, 10, 11);
    x.mode(false, 0);
    return x;
  }

  /** What looking at 10 finds; nothing is changed by it. */
  private static void looks(Buildkeeper x, int reason, int name) {
    x.build(12, 1, 0);
    Check.is(x.ofBuild(10, 0), reason == 0 ? CLEAN : STOPPED);
    Check.is(x.ofBuild(10, 1), reason);
    Check.is(x.ofBuild(10, 2), name);
    Check.is(x.ofBuild(11, 1), 9);
    Check.is(x.ofName(10, 5), reason == 0 ? 0 : 1);
  }

  /** "LOOKING at a STEP finds the first of these REASONS that is so, otherwise none." */
  private static void theFirstReasonThatIsSo() {
    Check.promise(18);
    Buildkeeper x = scene();
    looks(x, 0, NONE);
    x.step(10, 0, 6, 3);
    x.need(10, 3);
    x.put(1, 0);
    x.remove(19);
    x.alter(10, 9);
    looks(x, 2, NONE);
    x.step(10, 0, 5, 3);
    looks(x, 3, 3);
    x.unneed(10, 2);
    looks(x, 4, 1);
    x.wipe(1);
    x.put(1, 5);
    looks(x, 5, 19);
    x.mode(true, 0);
    x.build(10, 1, 0);
    x.mode(false, 0);
    looks(x, 0, NONE);
    x.alter(10, 9);
    looks(x, 6, 10);
    x.put(1, 1);
    looks(x, 4, 1);
    // without a record there is no other reason
    Buildkeeper y = scene();
    y.step(10, 6, 5, 3);
    y.step(10, 0, 5, 3);
    y.need(10, 3);
    y.put(1, 1);
    looks(y, 1, NONE);
  }

  private static void noRecord() {
    Check.promise(18);
    Buildkeeper x = new Buildkeeper();
    x.step(10, 0, 0, 1);
    Scenes.step(x, 11, 0, 90);
    Scenes.step(x, 12, 6, 10, 11);
    x.mode(false, 0);
    looks(x, 1, NONE);
    x.mode(true, 0);
    // a record that read nothing is one
    x.build(10, 1, 0);
    Check.is(x.ofStep(10, 8), 0);
    x.mode(false, 0);
    looks(x, 0, NONE);
  }

  private static void anotherRule() {
    Check.promise(18);
    Buildkeeper x = scene();
    int[][] others = {{0, 4, 3}, {0, 6, 3}, {1, 5, 3}, {5, 5, 3}, {4, 5, 3}};
    for (int[] rule : others) {
      x.step(10, rule[0], rule[1], rule[2]);
      if (rule[0] == 4) {
        // it includes: 5 is found, and is nothing
        x.build(12, 1, 0);
        Check.is(x.ofBuild(10, 1), 9);
        Check.is(x.ofBuild(10, 2), 5);
      } else {
        looks(x, 2, NONE);
      }
    }
    // the LENGTH is not of the RULE
    x.step(10, 0, 5, 9);
    looks(x, 0, NONE);
    x.step(10, 0, 5, 1);
    looks(x, 0, NONE);
  }

  /** "The NAME: the first one of now that is not the same at that place of the RECORD; if there are fewer now and those are alike, the first one of the RECORD that is more." */
  private static void otherNames() {
    Check.promise(18);
    Buildkeeper x = scene();
    x.need(10, 3);
    looks(x, 3, 3);
    x.unneed(10, 0);
    looks(x, 3, 2);
    x.need(10, 1);
    looks(x, 3, 2);
    x.unneed(10, 0);
    looks(x, 3, 3);
    x.unneed(10, 0);
    looks(x, 3, 2);
    x.need(10, 3);
    looks(x, 3, 3);
    x.unneed(10, 0);
    looks(x, 3, 3);
    x.unneed(10, 0);
    looks(x, 3, 1);
    x.need(10, 1);
    looks(x, 3, 2);
    x.need(10, 2);
    looks(x, 0, NONE);
    // others in order alone
    x.unneed(10, 0);
    x.need(10, 1);
    looks(x, 3, 2);
    // the record reads one name less than one that was kept before it
    Buildkeeper z = scene();
    z.mode(true, 0);
    z.unneed(10, 1);
    z.build(10, 1, 0);
    Check.is(z.ofStep(10, 8), 1);
    Check.is(z.readOf(10, 1), NONE);
    z.mode(false, 0);
    z.need(10, 2);
    looks(z, 3, 2);
    // a record without names, and one that is there now
    Buildkeeper y = new Buildkeeper();
    y.put(1, 1);
    y.step(10, 0, 0, 1);
    y.build(10, 1, 0);
    Scenes.step(y, 11, 0, 90);
    Scenes.step(y, 12, 6, 10, 11);
    y.mode(false, 0);
    y.need(10, 1);
    looks(y, 3, 1);
    y.unneed(10, 0);
    looks(y, 0, NONE);
  }

  /** The same of what is FOUND: more, fewer and other names behind the needs. */
  private static void otherNamesFound() {
    Check.promise(18);
    Buildkeeper x = new Buildkeeper();
    Scenes.put(x, 1, 3, 4);
    for (int name = 2; name <= 5; name++) {
      x.put(name, name);
    }
    Scenes.step(x, 10, 4, 1, 2);
    x.build(10, 1, 0);
    Check.is(x.text(10), "3 4 2");
    Check.is(x.ofStep(10, 8), 4);
    Scenes.step(x, 11, 0, 90);
    Scenes.step(x, 12, 6, 10, 11);
    x.mode(false, 0);
    looks(x, 0, NONE);
    x.put(1, 5);
    looks(x, 3, 5);
    x.wipe(1);
    looks(x, 3, 3);
    x.put(1, 3);
    looks(x, 3, 4);
    x.put(1, 5);
    looks(x, 3, 5);
    x.wipe(1);
    Scenes.put(x, 1, 4, 3);
    looks(x, 3, 4);
    x.wipe(1);
    Scenes.put(x, 1, 3, 4);
    looks(x, 0, NONE);
    x.put(4, 0);
    looks(x, 4, 4);
    // a need more comes ahead of what was found
    x.need(10, 5);
    looks(x, 3, 5);
    x.unneed(10, 2);
    x.unneed(10, 1);
    looks(x, 3, 3);
  }

  private static void anotherSum() {
    Check.promise(18);
    Buildkeeper x = scene();
    x.put(2, 0);
    looks(x, 4, 2);
    x.put(1, 0);
    looks(x, 4, 1);
    x.wipe(2);
    x.put(2, 6);
    looks(x, 4, 1);
    x.wipe(1);
    looks(x, 4, 1);
    x.put(1, 5);
    looks(x, 0, NONE);
    // dropped, and a source anew: only the content counts
    x.drop(2);
    x.put(2, 6);
    looks(x, 0, NONE);
    // a group in place of an empty source: both have the sum 0
    x.unneed(10, 1);
    x.need(10, 4);
    x.put(4, 1);
    x.wipe(4);
    x.mode(true, 0);
    x.build(10, 1, 0);
    Check.is(x.readSum(10, 1), 0);
    x.mode(false, 0);
    x.drop(4);
    x.step(4, 6, 0, 1);
    looks(x, 0, NONE);
    // but 0 is not the sum of the number 0
    x.strike(4);
    x.put(4, 0);
    looks(x, 4, 4);
  }

  private static void productsNotThere() {
    Check.promise(18);
    Buildkeeper x = scene();
    x.remove(10);
    looks(x, 5, 10);
    x.remove(19);
    looks(x, 5, 10);
    Buildkeeper y = scene();
    y.remove(19);
    looks(y, 5, 19);
    y.alter(10, 0);
    looks(y, 5, 19);
    // a second product that is new to the record is not there
    y.second(10, 18);
    looks(y, 5, 18);
    // without a second one it is no reason
    Buildkeeper z = scene();
    z.second(10, 10);
    looks(z, 0, NONE);
    z.second(10, 19);
    looks(z, 5, 19);
  }

  private static void anotherSumOfAProduct() {
    Check.promise(18);
    Buildkeeper x = scene();
    x.alter(19, 1);
    looks(x, 6, 19);
    x.alter(19, 3);
    looks(x, 6, 19);
    x.alter(10, 5);
    looks(x, 6, 10);
    x.alter(19, 2);
    looks(x, 6, 10);
    // altered to what it was
    Buildkeeper y = scene();
    y.alter(19, 2);
    looks(y, 0, NONE);
    y.unneed(10, 1);
    y.mode(true, 0);
    y.build(10, 1, 0);
    Check.is(y.text(10), "5");
    y.mode(false, 0);
    y.alter(10, 5);
    looks(y, 0, NONE);
    y.alter(10, 4);
    looks(y, 6, 10);
  }

  /** "What a STEP READS: its NEEDS in their order, then what it has FOUND in that order, each NAME with the SUM of its CONTENT (0 of a GROUP)." */
  private static void whatItReads() {
    Buildkeeper x = new Buildkeeper();
    Scenes.put(x, 1, 20, 29, 30, 20);
    Scenes.put(x, 2, 8);
    Scenes.step(x, 20, 0, 2);
    x.second(20, 29);
    Scenes.step(x, 30, 6, 2);
    Scenes.step(x, 10, 4, 1, 30, 2);
    x.build(10, 1, 0);
    Check.is(x.text(10), "8 1 8 8");
    int[] names = {1, 30, 2, 20, 29, 30, 20};
    long[] sums = {x.sum(1), 0, 9, 9, 2, 0, 9};
    Check.promise(23);
    Check.is(x.ofStep(10, 8), 7);
    for (int place = 0; place < 7; place++) {
      Check.promise(25);
      Check.is(x.readOf(10, place), names[place]);
      Check.promise(26);
      Check.is(x.readSum(10, place), sums[place]);
    }
    // "NONE without one"
    for (int place : new int[] {7, 8, 13, 14, 99, Integer.MAX_VALUE}) {
      Check.promise(25);
      Check.is(x.readOf(10, place), NONE);
      Check.promise(26);
      Check.is(x.readSum(10, place), NONE);
    }
    Check.is(x.readOf(30, 0), NONE);
    Check.is(x.readSum(30, 0), NONE);
    // it keeps it as it was, also as it fails, hangs or is looked at
    Scenes.put(x, 2, 7, 7, 7);
    x.build(10, 1, 0);
    Check.is(x.ofBuild(10, 1), 8);
    Check.is(x.readSum(10, 2), 9);
    Check.is(x.ofName(10, 5), 1);
    Check.is(x.readSum(20, 0), x.sum(2));
    // FETCHED, it keeps one as well
    x.wipe(2);
    x.put(2, 8);
    x.cache(9);
    x.build(20, 1, 0);
    Scenes.step(x, 21, 0, 2);
    x.build(21, 1, 0);
    Check.is(x.ofBuild(21, 0), FETCHED);
    Check.is(x.ofStep(21, 8), 1);
    Check.is(x.readOf(21, 0), 2);
    Check.is(x.readSum(21, 0), 9);
  }

  /** 10 joins 1; each of these builds it with another number in 1. */
  private static Buildkeeper joiner() {
    Buildkeeper x = new Buildkeeper();
    x.put(1, 0);
    Scenes.step(x, 10, 0, 1);
    return x;
  }

  private static void buildWith(Buildkeeper x, int number, int due) {
    x.wipe(1);
    x.put(1, number);
    x.build(10, 1, 0);
    Check.is(x.ofBuild(10, 0), due);
    Check.is(x.text(10), "" + number);
  }

  private static void holds(Buildkeeper x, int... results) {
    Check.is(x.cached(1), results.length);
    for (int place = 0; place < results.length; place++) {
      Check.is(x.cachedAt(place), "" + results[place]);
    }
    Check.is(x.cachedAt(results.length), "?");
    Check.is(x.cachedAt(results.length + 1), "?");
  }

  /** "At most as many entries as its BOUND (0 to 12; 0 at first) ... if there are more than BOUND, the eldest one goes." */
  private static void bounds() {
    Check.promise(16);
    Buildkeeper none = joiner();
    buildWith(none, 5, DONE);
    holds(none);
    none.remove(10);
    buildWith(none, 5, DONE);
    for (int bound = 0; bound <= 12; bound++) {
      Buildkeeper x = joiner();
      Check.is(x.cache(bound), 0);
      Check.is(x.cached(0), bound);
      for (int number = 20; number < 33; number++) {
        buildWith(x, number, DONE);
        int held = Math.min(bound, number - 19);
        Check.is(x.cached(1), held);
        Check.is(x.cachedAt(held), "?");
        if (held > 0) {
          Check.is(x.cachedAt(0), "" + (number - held + 1));
          Check.is(x.cachedAt(held - 1), "" + number);
        }
      }
      // the eldest one that is left, and the one that went last
      if (bound > 0) {
        x.remove(10);
        buildWith(x, 33 - bound, FETCHED);
        buildWith(x, 32 - bound, DONE);
      }
      Check.is(x.cached(3), bound == 0 ? 0 : 14);
    }
  }

  /** "Tells BOUND; if there are more, the eldest ones go. Returns how many entries are left." */
  private static void boundsTold() {
    Check.promise(16);
    Buildkeeper x = joiner();
    x.cache(12);
    for (int number = 1; number <= 12; number++) {
      buildWith(x, number, DONE);
    }
    Check.is(x.cache(12), 12);
    Check.is(x.cache(11), 11);
    Check.is(x.cachedAt(0), "2");
    Check.argument(() -> x.cache(13));
    Check.argument(() -> x.cache(-1));
    Check.is(x.cached(0), 11);
    Check.is(x.cached(1), 11);
    Check.is(x.cache(12), 11);
    Check.is(x.cache(3), 3);
    holds(x, 10, 11, 12);
    Check.is(x.cache(1), 1);
    holds(x, 12);
    Check.is(x.cache(4), 1);
    buildWith(x, 11, DONE);
    holds(x, 12, 11);
    Check.is(x.cache(2), 2);
    Check.is(x.cache(0), 0);
    holds(x);
    Check.is(x.cache(12), 0);
    buildWith(x, 12, DONE);
    holds(x, 12);
  }

  /** "Who is put in, or FETCHED, is the latest one." */
  private static void theLatestOne() {
    Check.promise(16);
    Buildkeeper x = joiner();
    x.cache(3);
    buildWith(x, 1, DONE);
    buildWith(x, 2, DONE);
    buildWith(x, 3, DONE);
    holds(x, 1, 2, 3);
    buildWith(x, 1, FETCHED);
    holds(x, 2, 3, 1);
    buildWith(x, 3, FETCHED);
    holds(x, 2, 1, 3);
    buildWith(x, 4, DONE);
    holds(x, 1, 3, 4);
    x.remove(10);
    buildWith(x, 4, FETCHED);
    holds(x, 1, 3, 4);
    x.cache(1);
    x.remove(10);
    buildWith(x, 4, FETCHED);
    holds(x, 4);
    buildWith(x, 5, DONE);
    holds(x, 5);
    // one that is asked for alone stays where it is
    x.cache(2);
    buildWith(x, 6, DONE);
    x.wipe(1);
    x.put(1, 5);
    Check.is(x.would(10, 1, 6), 1);
    Check.is(x.wouldDo(10, 0), NONE);
    Check.is(x.isSound(), true);
    holds(x, 5, 6);
    // asked so, it knows the whole key: KIND, PARAMETER and sums
    Scenes.step(x, 11, 2, 1);
    x.build(11, 1, 0);
    x.remove(11);
    Check.is(x.would(11, 1, 6), 1);
    x.step(11, 2, 6, 3);
    Check.is(x.would(11, 1, 6), 0);
    x.step(11, 1, 5, 3);
    Check.is(x.would(11, 1, 6), 0);
    x.step(11, 2, 5, 3);
    x.put(1, 1);
    Check.is(x.would(11, 1, 6), 0);
  }

  /** "If the RESULT of an entry has not its SUM, it is WRONG: as it is to be FETCHED, it goes, and is counted (as WRONG alone), and the STEP is not FETCHED." */
  private static void wrongOnes() {
    Check.promise(17);
    Buildkeeper x = joiner();
    x.cache(4);
    buildWith(x, 1, DONE);
    buildWith(x, 2, DONE);
    buildWith(x, 3, DONE);
    Check.is(x.poison(3, 0), REFUSED);
    Check.is(x.poison(-1, 0), REFUSED);
    Check.is(x.poison(2, 0), 1);
    Check.is(x.poison(0, 99), 1);
    holds(x, 99, 2, 0);
    // nobody fetches it: it stays, and counts nothing
    x.remove(10);
    x.cache(3);
    buildWith(x, 2, FETCHED);
    holds(x, 99, 0, 2);
    Check.is(x.cached(4), 0);
    buildWith(x, 1, DONE);
    Check.is(x.cached(4), 1);
    Check.is(x.cached(2), 1);
    Check.is(x.cached(3), 3);
    holds(x, 0, 2, 1);
    // gone, though the try fails then; the next one finds no entry
    x.fault(10, 1);
    x.wipe(1);
    x.put(1, 3);
    x.build(10, 1, 0);
    Check.is(x.ofBuild(10, 0), FAILED);
    Check.is(x.ofBuild(10, 1), 7);
    holds(x, 2, 1);
    Check.is(x.cached(4), 2);
    Check.is(x.cached(3), 3);
    buildWith(x, 3, DONE);
    Check.is(x.cached(3), 4);
    // told to be what it is, it is not wrong
    Check.is(x.poison(2, 3), 1);
    x.remove(10);
    buildWith(x, 3, FETCHED);
    // the eldest one goes, wrong or not
    x.poison(0, 50);
    x.cache(2);
    holds(x, 1, 3);
    Check.is(x.cached(4), 2);
    poisonedSizes();
  }

  /** "Returns how many NUMBERS the RESULT had": 0, 1 and 8. */
  private static void poisonedSizes() {
    Buildkeeper x = joiner();
    x.cache(12);
    x.wipe(1);
    x.build(10, 1, 0);
    Scenes.put(x, 1, 1, 2, 3, 4, 5, 6, 7, 8);
    x.build(10, 1, 0);
    Check.is(x.cachedAt(0), "-");
    Check.is(x.cachedAt(1), "1 2 3 4 5 6 7 8");
    Check.is(x.poison(0, 0), 0);
    Check.is(x.poison(1, 99), 8);
    Check.is(x.poison(1, 98), 1);
    Check.is(x.cachedAt(0), "0");
    Check.is(x.cachedAt(1), "98");
    // the number 0 is not the empty result
    x.wipe(1);
    x.build(10, 1, 0);
    Check.is(x.ofBuild(10, 0), DONE);
    Check.is(x.text(10), "-");
    Check.is(x.cached(4), 1);
  }

  /** "An entry has a KEY, which is a RULE and the row of SUMS that were READ." */
  private static void keys() {
    Check.promise(18);
    Buildkeeper x = joiner();
    x.put(2, 0);
    x.put(3, 0);
    x.cache(12);
    buildWith(x, 0, DONE);
    // other names with the same sums; another LENGTH
    x.step(11, 0, 5, 9);
    x.need(11, 2);
    became(x, 11, FETCHED);
    // another PARAMETER, below and above; another KIND
    int[][] rules = {{0, 4}, {0, 6}, {1, 5}, {5, 5}};
    for (int i = 0; i < rules.length; i++) {
      x.step(20 + i, rules[i][0], rules[i][1], 3);
      x.need(20 + i, 1);
      became(x, 20 + i, DONE);
    }
    // more sums, and none
    Scenes.step(x, 30, 0, 2, 3);
    became(x, 30, DONE);
    Scenes.step(x, 31, 0);
    became(x, 31, DONE);
    // another order of the same sums
    x.put(3, 1);
    Scenes.step(x, 32, 0, 2, 3);
    became(x, 32, DONE);
    Scenes.step(x, 33, 0, 3, 2);
    became(x, 33, DONE);
    Scenes.step(x, 34, 0, 1, 3);
    became(x, 34, FETCHED);
    Check.is(x.text(34), "0 0 1");
    Check.is(x.cached(1), 9);
    // a step with a second product takes what one without it made, and the other way round
    x.second(34, 35);
    became(x, 34, FETCHED);
    Check.is(x.ofBuild(34, 1), 5);
    Check.is(x.text(35), "3");
    // what is found is of the key, too
    Buildkeeper y = new Buildkeeper();
    y.put(1, 2);
    y.put(2, 7);
    y.cache(5);
    Scenes.step(y, 10, 4, 1);
    became(y, 10, DONE);
    Scenes.step(y, 11, 4, 1);
    became(y, 11, FETCHED);
    y.put(2, 8);
    became(y, 11, DONE);
    became(y, 10, FETCHED);
    Check.is(y.text(10), "7 8");
  }

  private static void became(Buildkeeper x, int head, int due) {
    x.build(head, 1, 0);
    Check.is(x.ofBuild(head, 0), due);
  }

  /** "Who is put in with a KEY that is there takes the place of that entry, and is the latest one." */
  private static void takesThePlace() {
    Check.promise(18);
    Buildkeeper x = new Buildkeeper();
    x.put(1, 1);
    x.put(2, 2);
    x.cache(3);
    Scenes.step(x, 10, 0, 1);
    x.step(11, 0, 5, 4);
    x.need(11, 1);
    Scenes.step(x, 12, 0, 2);
    Scenes.step(x, 13, 6, 10, 11, 12);
    // 10 ends with 12 at 3, 11 with the same key at 4
    x.build(13, 3, 0);
    holds(x, 2, 1);
    Check.is(x.cached(3), 3);
    // it is right again, though the one in whose place it comes was wrong: 11 begins ahead of that
    Buildkeeper y = new Buildkeeper();
    y.put(1, 1);
    y.cache(1);
    Scenes.step(y, 10, 0, 1);
    Scenes.step(y, 11, 0, 1);
    Scenes.step(y, 13, 6, 10, 11);
    y.build(13, 2, 0);
    holds(y, 1);
    y.poison(0, 9);
    y.remove(10);
    y.remove(11);
    y.build(13, 2, 0);
    holds(y, 1);
    Check.is(y.cached(4), 1);
    Check.is(y.cached(3), 3);
    Check.is(y.last(4) + y.last(3), 2);
  }

  /** cached() of 2, 3 and 4: counted ever, with a BOUND above 0. */
  private static void counts() {
    Check.promise(43);
    Buildkeeper x = joiner();
    buildWith(x, 1, DONE);
    Check.is(x.cached(3), 0);
    x.cache(1);
    buildWith(x, 2, DONE);
    Check.is(x.cached(3), 1);
    // clean: no reason, nothing counts
    x.build(10, 1, 0);
    Check.is(x.cached(3), 1);
    x.remove(10);
    buildWith(x, 2, FETCHED);
    x.poison(0, 3);
    x.remove(10);
    buildWith(x, 2, DONE);
    int[] due = {1, 1, 1, 1, 1};
    for (int what = 0; what <= 4; what++) {
      Check.is(x.cached(what), due[what]);
    }
    // a group, and what fails ahead of looking, do not count; what is stopped after looking does
    x.step(20, 6, 0, 1);
    x.build(20, 1, 0);
    Scenes.step(x, 21, 0, 90);
    x.build(21, 1, 0);
    Check.is(x.cached(3), 1);
    x.mode(false, 0);
    Scenes.step(x, 11, 0, 20);
    Scenes.step(x, 22, 6, 11, 21);
    x.build(22, 1, 0);
    Check.is(x.ofBuild(11, 0), STOPPED);
    Check.is(x.cached(3), 2);
    // all of it stays with another bound
    x.cache(0);
    x.mode(true, 0);
    x.build(11, 1, 0);
    int[] after = {0, 0, 1, 2, 1};
    for (int what = 0; what <= 4; what++) {
      Check.is(x.cached(what), after[what]);
    }
  }

  /** "'?' if there is no such one." */
  private static void places() {
    Check.promise(44);
    Buildkeeper x = joiner();
    Check.is(x.cachedAt(0), "?");
    x.cache(12);
    Check.is(x.cachedAt(0), "?");
    for (int number = 0; number < 12; number++) {
      buildWith(x, number, DONE);
    }
    Check.is(x.cachedAt(0), "0");
    Check.is(x.cachedAt(11), "11");
    Check.is(x.cachedAt(12), "?");
    Check.is(x.cachedAt(Integer.MAX_VALUE), "?");
    Check.argument(() -> x.cachedAt(-1));
    // the same content told anew is the same RESULT: SAME does not come from the cache
    x.cache(0);
    x.cache(2);
    x.step(10, 0, 6, 3);
    x.build(10, 1, 0);
    Check.is(x.ofBuild(10, 0), SAME);
    holds(x, 11);
  }
}
