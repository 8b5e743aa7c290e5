/** Section 4 of the document and promises 18, 36 to 39 and 23 (FORETOLD), sentence by sentence, at each bound. */
public final class EdgesOfBuildsTest {
  private static final int NONE = -1;
  private static final int REFUSED = -9;
  private static final int CLEAN = 1;
  private static final int FETCHED = 2;
  private static final int DONE = 3;
  private static final int SAME = 4;
  private static final int FAILED = 5;
  private static final int HANGS = 6;
  private static final int STOPPED = 7;
  private static final int GATHERED = 8;

  public static void main(String[] args) {
    goals();
    ringsAnywhere();
    wanted();
    whatIsMissing();
    whatHangs();
    hands();
    theFreeHand();
    shakes();
    weights();
    noTime();
    endsAtOnce();
    tryAgain();
    faultsComeFirst();
    doneOrSame();
    stopped();
    stoppedAtTheSameTime();
    ringsOfWaiting();
    longRingsOfWaiting();
    behindARingOfWaiting();
    foretold();
    history();
    theMostTries();
    Check.end();
  }

  private static void became(Buildkeeper x, int head, int state, int reason, int name) {
    Check.is(x.ofBuild(head, 0), state);
    Check.is(x.ofBuild(head, 1), reason);
    Check.is(x.ofBuild(head, 2), name);
  }

  /** When it began, when it was settled, how many tries, its hand. */
  private static void times(Buildkeeper x, int head, int began, int settled, int tries, int hand) {
    Check.is(x.ofBuild(head, 3), began);
    Check.is(x.ofBuild(head, 4), settled);
    Check.is(x.ofBuild(head, 5), tries);
    Check.is(x.ofBuild(head, 6), hand);
  }

  private static void tell(Buildkeeper x, int head, int kind, int length, int... needs) {
    x.step(head, kind, 0, length);
    for (int need : needs) {
      x.need(head, need);
    }
  }

  /** "A GOAL, a NAME that has a STEP": a head, a second product, one by a pattern, those of a group. */
  private static void goals() {
    Check.promise(18);
    Buildkeeper x = new Buildkeeper();
    x.put(1, 1);
    x.pattern(2, 1, 0, 0, 4);
    tell(x, 10, 0, 3, 1);
    x.second(10, 19);
    tell(x, 20, 6, 9, 10);
    x.second(20, 29);
    Check.is(x.build(2, 1, 0), 4);
    Check.is(x.build(19, 1, 0), 3);
    Check.is(x.ofBuild(10, 0), DONE);
    Check.is(x.ofBuild(19, 0), 0);
    Check.is(x.build(29, 1, 0), 0);
    Check.is(x.ofBuild(20, 0), GATHERED);
    Check.is(x.last(0), 29);
    Check.state(() -> x.build(1, 1, 0));
    Check.state(() -> x.build(0, 1, 0));
    Check.state(() -> x.build(3, 1, 0));
    x.unpattern(2);
    Check.state(() -> x.build(2, 1, 0));
    x.second(20, 20);
    Check.state(() -> x.build(29, 1, 0));
    Check.is(x.house(4), 3);
  }

  /** "It is REFUSED, if there is a RING anywhere": the last BUILD is the one before. */
  private static void ringsAnywhere() {
    Check.promise(18);
    Buildkeeper x = Scenes.small();
    x.build(11, 2, 0);
    tell(x, 30, 0, 1, 31);
    x.second(30, 31);
    Check.is(x.build(10, 1, 0), REFUSED);
    Check.is(x.last(0), 11);
    Check.is(x.last(1), 2);
    Check.is(x.house(4), 1);
    Check.is(x.history(1, 0), NONE);
    Check.is(x.trace(), "10@0 11@4");
    Check.is(x.ofBuild(11, 0), DONE);
  }

  /** "WANTED are the STEP of the GOAL, and the STEPS of all NAMES to which a way of needs leads from it." */
  private static void wanted() {
    Check.promise(37);
    Buildkeeper x = new Buildkeeper();
    tell(x, 10, 0, 1);
    x.build(10, 1, 0);
    Check.is(x.last(11), 1);
    tell(x, 0, 0, 1, 10);
    tell(x, 99, 0, 1, 0);
    tell(x, 50, 0, 1, 99);
    x.build(99, 1, 0);
    Check.is(x.last(11), 3);
    Check.is(x.ofBuild(50, 0), 0);
    Check.is(x.ofBuild(0, 0), DONE);
    Check.is(x.ofBuild(10, 0), CLEAN);
    x.build(10, 1, 0);
    Check.is(x.last(11), 1);
    Check.is(x.ofBuild(0, 0), 0);
    times(x, 0, NONE, NONE, 0, NONE);
    Check.is(x.ofBuild(0, 1), 0);
    Check.is(x.ofBuild(0, 2), NONE);
    // what is found is wanted from then on, with what it needs; not, if it never finds
    Buildkeeper y = new Buildkeeper();
    y.put(1, 30);
    tell(y, 40, 0, 2);
    tell(y, 30, 0, 2, 40);
    tell(y, 10, 4, 1, 1);
    y.build(10, 1, 0);
    Check.is(y.last(11), 3);
    y.drop(1);
    y.build(10, 1, 0);
    Check.is(y.last(11), 1);
    became(y, 10, FAILED, 9, 1);
    // what was settled before it was found stays so, by its head and by its second product
    Buildkeeper z = new Buildkeeper();
    Scenes.put(z, 1, 29, 20, 2);
    z.put(2, 6);
    tell(z, 20, 0, 3, 2);
    z.second(20, 29);
    tell(z, 30, 4, 2, 1, 20);
    Check.is(z.build(30, 1, 0), 5);
    Check.is(z.text(30), "1 6 6 6");
    became(z, 20, DONE, 1, NONE);
    times(z, 20, 0, 3, 1, 0);
    Check.is(z.last(3), 2);
    Check.is(z.last(11), 2);
  }

  /** "If one of these has no STEP and is no SOURCE, it FAILED (REASON 9, that NAME)", ahead of HANGS. */
  private static void whatIsMissing() {
    Check.promise(18);
    Buildkeeper x = new Buildkeeper();
    tell(x, 10, 0, 1, 98);
    tell(x, 20, 0, 1, 10, 99, 98);
    tell(x, 30, 6, 1, 20, 97);
    x.build(30, 1, 0);
    became(x, 10, FAILED, 9, 98);
    became(x, 20, FAILED, 9, 99);
    became(x, 30, FAILED, 9, 97);
    times(x, 30, NONE, 0, 0, NONE);
    x.put(97, 1);
    x.wipe(97);
    x.build(30, 1, 0);
    became(x, 30, HANGS, 11, 20);
    x.put(98, 1);
    x.build(30, 1, 0);
    became(x, 10, DONE, 1, NONE);
    became(x, 20, FAILED, 9, 99);
    // what is found and missing: needs first, then in the order in which they were found; once all of them are settled
    Buildkeeper y = new Buildkeeper();
    Scenes.put(y, 1, 10, 96, 95);
    tell(y, 10, 0, 4);
    tell(y, 20, 4, 1, 1, 10);
    Check.is(y.build(20, 1, 0), 4);
    became(y, 20, FAILED, 9, 96);
    Check.is(y.ofBuild(20, 4), 4);
    y.need(20, 97);
    y.build(20, 1, 0);
    became(y, 20, FAILED, 9, 97);
    Check.is(y.last(11), 2);
  }

  private static void whatHangs() {
    Check.promise(18);
    Buildkeeper x = new Buildkeeper();
    tell(x, 10, 0, 1, 98);
    x.second(10, 19);
    tell(x, 20, 0, 1, 19);
    tell(x, 30, 0, 2);
    tell(x, 40, 6, 1, 30, 20, 10);
    tell(x, 50, 0, 1, 40);
    Check.is(x.build(50, 1, 0), 2);
    became(x, 10, FAILED, 9, 98);
    became(x, 20, HANGS, 11, 19);
    became(x, 30, DONE, 1, NONE);
    became(x, 40, HANGS, 11, 20);
    became(x, 50, HANGS, 11, 40);
    times(x, 20, NONE, 0, 0, NONE);
    times(x, 50, NONE, 2, 0, NONE);
    int[] due = {50, 1, 2, 1, 0, 0, 0, 1, 3, 0, 0, 5};
    for (int what = 0; what <= 11; what++) {
      Check.is(x.last(what), due[what]);
    }
    // an INCLUDE behind a bad need does not find
    Buildkeeper y = new Buildkeeper();
    y.put(1, 30);
    tell(y, 10, 0, 1, 98);
    tell(y, 30, 0, 1);
    tell(y, 20, 4, 1, 1, 10);
    y.build(20, 1, 0);
    became(y, 20, HANGS, 11, 10);
    Check.is(y.last(11), 2);
    // what is found is bad
    y.unneed(20, 1);
    y.put(1, 10);
    y.build(20, 1, 0);
    became(y, 20, HANGS, 11, 10);
    Check.is(y.last(11), 3);
  }

  /** Seven steps of one minute, which a group needs by another group. */
  private static Buildkeeper seven() {
    Buildkeeper x = new Buildkeeper();
    tell(x, 20, 6, 1);
    tell(x, 21, 6, 1, 20);
    for (int i = 0; i < 7; i++) {
      tell(x, 10 + i, 0, 1);
      x.need(i < 6 ? 20 : 21, 10 + i);
    }
    return x;
  }

  /** "HANDS, 1 to 6, numbered from 0." */
  private static void hands() {
    Check.promise(18);
    int[] minutes = {7, 4, 3, 2, 2, 2};
    for (int hands = 1; hands <= 6; hands++) {
      Buildkeeper x = seven();
      Check.is(x.build(21, hands, 0), minutes[hands - 1]);
      Check.is(x.last(1), hands);
      for (int i = 0; i < 7; i++) {
        times(x, 10 + i, i / hands, i / hands + 1, 1, i % hands);
      }
    }
    Buildkeeper x = seven();
    Check.argument(() -> x.build(21, 0, 0));
    Check.argument(() -> x.build(21, 7, 0));
    Check.is(x.build(21, 6, 0), 2);
    Check.is(x.trace(), "10@0 11@0 12@0 13@0 14@0 15@0 16@1");
  }

  /** "On the free HAND with the smallest number." */
  private static void theFreeHand() {
    Check.promise(36);
    Buildkeeper x = new Buildkeeper();
    tell(x, 10, 0, 9);
    tell(x, 11, 0, 2);
    tell(x, 12, 0, 3);
    tell(x, 13, 0, 1, 12);
    tell(x, 14, 0, 1, 11);
    tell(x, 15, 0, 1, 11);
    tell(x, 16, 6, 1, 10, 11, 12, 13, 14, 15);
    Check.is(x.build(16, 4, 0), 9);
    Check.is(x.trace(), "10@0 12@0 11@0 14@2 15@2 13@3");
    Check.is(x.ofBuild(10, 6), 0);
    Check.is(x.ofBuild(12, 6), 1);
    Check.is(x.ofBuild(11, 6), 2);
    Check.is(x.ofBuild(14, 6), 2);
    Check.is(x.ofBuild(15, 6), 3);
    Check.is(x.ofBuild(13, 6), 1);
  }

  /** "A SHAKE, 0 to 9 ... it is at work for LENGTH + (HEAD * SHAKE) % 4 minutes." */
  private static void shakes() {
    Check.promise(18);
    for (int head : new int[] {0, 1, 2, 3, 50, 97, 98, 99}) {
      Buildkeeper x = new Buildkeeper();
      tell(x, head, 0, 9);
      Check.argument(() -> x.build(head, 1, 10));
      Check.argument(() -> x.build(head, 1, -1));
      for (int shake = 0; shake <= 9; shake++) {
        Check.is(x.build(head, 1, shake), 9 + head * shake % 4);
        x.remove(head);
      }
    }
    // each try is shaken
    Buildkeeper x = new Buildkeeper();
    tell(x, 99, 0, 1);
    x.mode(true, 3);
    x.fault(99, 3);
    Check.is(x.build(99, 1, 9), 16);
    Check.is(x.trace(), "99@0 99@4 99@8 99@12");
    Check.is(x.ofStep(99, 9), 16);
  }

  /** "WEIGHT: its LENGTH, and the greatest WEIGHT of all WANTED STEPS that have one of its PRODUCTS as a NEED." */
  private static void weights() {
    Check.promise(18);
    // the same weights: the smallest head; then one more, and one less
    int[] lengths = {4, 5, 6};
    String[] due = {"11@0 10@5", "10@0 11@5", "10@0 11@6"};
    for (int i = 0; i < 3; i++) {
      Buildkeeper x = new Buildkeeper();
      tell(x, 10, 0, lengths[i]);
      tell(x, 11, 0, 5);
      tell(x, 12, 6, 9, 10, 11);
      x.build(12, 1, 0);
      Check.is(x.trace(), due[i]);
    }
    // of the greatest one alone, not of all; a group counts 0, whatever its LENGTH; who is not wanted does not count
    Buildkeeper y = new Buildkeeper();
    tell(y, 10, 0, 1);
    tell(y, 11, 0, 2);
    tell(y, 20, 0, 3, 10);
    tell(y, 21, 0, 3, 10);
    tell(y, 22, 0, 5, 11);
    tell(y, 12, 0, 1);
    tell(y, 31, 6, 9, 12);
    tell(y, 30, 6, 9, 10, 31, 20, 21, 22);
    tell(y, 40, 0, 9, 10);
    y.build(30, 1, 0);
    Check.is(y.trace(), "11@0 22@2 10@7 20@8 21@11 12@14");
    // steps that were struck since the last build count no more
    Buildkeeper u = new Buildkeeper();
    tell(u, 10, 0, 1);
    tell(u, 11, 0, 1);
    tell(u, 12, 0, 1);
    tell(u, 13, 0, 1);
    tell(u, 20, 0, 5, 10);
    tell(u, 21, 0, 4, 11);
    tell(u, 5, 6, 9, 20, 21, 12, 13);
    u.build(5, 1, 0);
    Check.is(u.trace(), "10@0 11@1 20@2 21@7 12@11 13@12");
    u.unneed(5, 3);
    u.unneed(5, 2);
    u.strike(12);
    u.strike(13);
    u.step(10, 0, 1, 1);
    u.step(11, 0, 1, 1);
    u.step(20, 0, 1, 5);
    u.step(21, 0, 1, 4);
    u.build(5, 1, 0);
    Check.is(u.trace(), "10@0 11@1 20@2 21@7");
    // by the second product; whatever became of the one that needs it
    Buildkeeper z = new Buildkeeper();
    tell(z, 10, 0, 1);
    z.second(10, 19);
    tell(z, 11, 0, 2);
    tell(z, 20, 0, 9, 19, 98);
    tell(z, 30, 6, 1, 10, 11, 20);
    z.build(30, 1, 0);
    Check.is(z.trace(), "10@0 11@1");
    // "as that was when it became READY": 40 is wanted only after that
    Buildkeeper w = new Buildkeeper();
    w.put(1, 40);
    tell(w, 10, 0, 1);
    tell(w, 11, 0, 2);
    tell(w, 40, 0, 9, 10);
    tell(w, 12, 4, 1, 1);
    tell(w, 30, 6, 1, 10, 11, 12);
    w.build(30, 1, 0);
    Check.is(w.trace(), "11@0 10@2 40@3 12@12");
    Buildkeeper v = new Buildkeeper();
    v.put(1, 40);
    tell(v, 12, 0, 1);
    tell(v, 13, 0, 2);
    tell(v, 40, 0, 9, 12);
    tell(v, 11, 4, 1, 1);
    tell(v, 30, 6, 1, 11, 12, 13);
    v.build(30, 1, 0);
    Check.is(v.trace(), "12@0 40@1 13@10 11@12");
  }

  /** "NOW is 0", and stays so where nothing is at work. */
  private static void noTime() {
    Check.promise(18);
    Buildkeeper x = new Buildkeeper();
    tell(x, 20, 6, 9);
    Check.is(x.build(20, 1, 9), 0);
    became(x, 20, GATHERED, 0, NONE);
    times(x, 20, NONE, 0, 0, NONE);
    tell(x, 10, 0, 9);
    x.build(10, 1, 0);
    Check.is(x.build(10, 6, 9), 0);
    became(x, 10, CLEAN, 0, NONE);
    times(x, 10, NONE, 0, 0, NONE);
    Check.is(x.trace(), "-");
    x.cache(1);
    x.remove(10);
    Check.is(x.build(10, 1, 0), 9);
    x.remove(10);
    Check.is(x.build(10, 1, 0), 0);
    became(x, 10, FETCHED, 5, 10);
    times(x, 10, NONE, 0, 0, NONE);
    tell(x, 11, 0, 9, 98);
    Check.is(x.build(11, 1, 0), 0);
    became(x, 11, FAILED, 9, 98);
    times(x, 11, NONE, 0, 0, NONE);
    // fetched, gathered and hanging at the time at which what they need was settled
    tell(x, 12, 0, 7);
    tell(x, 13, 6, 9, 12, 20);
    tell(x, 14, 0, 9, 13, 11);
    x.cache(0);
    Check.is(x.build(14, 1, 0), 7);
    times(x, 13, NONE, 7, 0, NONE);
    times(x, 14, NONE, 7, 0, NONE);
    times(x, 12, 0, 7, 1, 0);
  }

  /** "All that end then do, by rising HEADS": what the smaller one puts into the cache is not fetched by the other one, which is the latest. */
  private static void endsAtOnce() {
    Check.promise(18);
    Buildkeeper x = new Buildkeeper();
    x.cache(2);
    x.step(12, 0, 1, 4);
    x.step(10, 2, 2, 4);
    x.step(11, 0, 3, 3);
    tell(x, 13, 6, 1, 10, 11, 12);
    Check.is(x.build(13, 3, 0), 4);
    Check.is(x.cachedAt(0), "0");
    Check.is(x.cachedAt(1), "-");
    Check.is(x.cached(1), 2);
    x.cache(1);
    x.remove(12);
    x.build(12, 1, 0);
    Check.is(x.ofBuild(12, 0), FETCHED);
  }

  /** "It begins again at once on its HAND, for as long": ahead of what begins by b. */
  private static void tryAgain() {
    Check.promise(38);
    Buildkeeper x = new Buildkeeper();
    tell(x, 10, 0, 2);
    tell(x, 11, 0, 9);
    tell(x, 12, 0, 2);
    tell(x, 13, 0, 1);
    tell(x, 14, 6, 1, 10, 11, 12, 13);
    x.mode(true, 1);
    x.fault(12, 1);
    x.fault(10, 2);
    Check.is(x.build(14, 3, 0), 9);
    Check.is(x.trace(), "11@0 10@0 12@0 10@2 12@2 13@4");
    became(x, 10, FAILED, 7, NONE);
    became(x, 12, DONE, 1, NONE);
    times(x, 10, 0, 4, 2, 1);
    times(x, 12, 0, 4, 2, 2);
    times(x, 13, 4, 5, 1, 1);
    became(x, 14, HANGS, 11, 10);
  }

  /** A try fails by a fault ahead of what its result would have. */
  private static void faultsComeFirst() {
    Check.promise(18);
    Buildkeeper x = new Buildkeeper();
    Scenes.put(x, 1, 1, 2, 3, 4, 5, 6, 7, 8);
    x.put(2, 9);
    tell(x, 10, 0, 1, 1, 2);
    x.fault(10, 1);
    x.build(10, 1, 0);
    became(x, 10, FAILED, 7, NONE);
    Check.is(x.ofStep(10, 5), 0);
    x.fault(10, 1);
    x.mode(true, 3);
    Check.is(x.build(10, 1, 0), 2);
    became(x, 10, FAILED, 8, NONE);
    times(x, 10, 0, 2, 2, 0);
    Check.is(x.text(10), "?");
    Check.is(x.ofStep(10, 8), NONE);
    x.cache(2);
    x.build(10, 1, 0);
    Check.is(x.cached(1), 0);
    // with one number less it is no reason
    x.wipe(2);
    x.build(10, 1, 0);
    became(x, 10, DONE, 1, NONE);
    Check.is(x.cached(1), 1);
  }

  /** "SAME, if all of its PRODUCTS were THERE with these CONTENTS ahead of that, otherwise DONE." */
  private static void doneOrSame() {
    Check.promise(18);
    for (int way = 0; way < 6; way++) {
      Buildkeeper x = Scenes.small();
      x.build(10, 1, 0);
      x.step(10, 0, 1, 4);
      if (way == 1) {
        x.remove(10);
      } else if (way == 2) {
        x.remove(19);
      } else if (way == 3) {
        x.alter(10, 0);
      } else if (way == 4) {
        x.alter(19, 0);
      } else if (way == 5) {
        x.alter(19, 2);
      }
      x.build(10, 1, 0);
      became(x, 10, way == 0 || way == 5 ? SAME : DONE, 2, NONE);
      Check.is(x.ofStep(10, 6), 2);
      Check.is(x.text(10) + "/" + x.text(19), "5 3/2");
    }
    // an empty one that is there, and one that is not
    Buildkeeper y = new Buildkeeper();
    tell(y, 10, 0, 1);
    y.build(10, 1, 0);
    became(y, 10, DONE, 1, NONE);
    y.step(10, 1, 0, 1);
    y.build(10, 1, 0);
    became(y, 10, SAME, 2, NONE);
    y.remove(10);
    y.build(10, 1, 0);
    became(y, 10, DONE, 5, 10);
    y.alter(10, 0);
    y.build(10, 1, 0);
    became(y, 10, DONE, 6, 10);
  }

  /** "As soon as one FAILED, all is STOPPED: nothing goes on by a., nothing begins by b." */
  private static void stopped() {
    Check.promise(18);
    // 11 fails as it goes on: 10 was looked at ahead of that, 12 was not
    Buildkeeper x = new Buildkeeper();
    tell(x, 10, 0, 1);
    tell(x, 11, 0, 1, 98);
    tell(x, 12, 0, 1);
    tell(x, 13, 6, 1, 10, 11, 12);
    x.mode(false, 3);
    Check.is(x.build(13, 6, 0), 0);
    became(x, 10, STOPPED, 1, NONE);
    became(x, 11, FAILED, 9, 98);
    became(x, 12, STOPPED, 0, NONE);
    became(x, 13, STOPPED, 0, NONE);
    times(x, 10, NONE, NONE, 0, NONE);
    times(x, 11, NONE, 0, 0, NONE);
    int[] due = {13, 6, 0, 0, 0, 0, 0, 1, 0, 3, 0, 4};
    for (int what = 0; what <= 11; what++) {
      Check.is(x.last(what), due[what]);
    }
    // what is at work ends by d., with all that it makes; what would be gathered by it is not
    Buildkeeper y = new Buildkeeper();
    tell(y, 10, 0, 2);
    tell(y, 11, 0, 5);
    tell(y, 12, 0, 1, 11);
    tell(y, 14, 6, 1, 11);
    tell(y, 13, 6, 1, 10, 11, 12, 14);
    y.fault(10, 1);
    y.mode(false, 0);
    Check.is(y.build(13, 2, 0), 5);
    became(y, 10, FAILED, 7, NONE);
    became(y, 11, DONE, 1, NONE);
    became(y, 12, STOPPED, 0, NONE);
    became(y, 14, STOPPED, 0, NONE);
    Check.is(y.text(11), "-");
    Check.is(y.ofStep(11, 9), 5);
    // kept going
    y.fault(10, 1);
    y.mode(true, 0);
    y.build(13, 2, 0);
    became(y, 12, DONE, 1, NONE);
    became(y, 14, GATHERED, 0, NONE);
    became(y, 13, HANGS, 11, 10);
    // what fails at work after it was stopped fails by itself, without another try
    Buildkeeper z = new Buildkeeper();
    tell(z, 10, 0, 2);
    tell(z, 11, 0, 5);
    tell(z, 13, 6, 1, 10, 11);
    z.fault(10, 2);
    z.fault(11, 2);
    z.mode(false, 1);
    Check.is(z.build(13, 2, 0), 5);
    became(z, 10, FAILED, 7, NONE);
    became(z, 11, FAILED, 7, NONE);
    Check.is(z.ofBuild(10, 5), 2);
    Check.is(z.ofBuild(11, 5), 1);
    Check.is(z.ofStep(11, 5), 1);
    // one that would have too much stops all as well
    Buildkeeper w = new Buildkeeper();
    Scenes.put(w, 1, 1, 2, 3, 4, 5, 6, 7, 8);
    w.put(2, 9);
    tell(w, 10, 0, 9, 1, 2);
    tell(w, 11, 0, 1, 1);
    tell(w, 13, 6, 1, 10, 11);
    w.mode(false, 3);
    w.build(13, 1, 0);
    became(w, 10, FAILED, 8, NONE);
    became(w, 11, STOPPED, 1, NONE);
    w.wipe(2);
    w.build(13, 1, 0);
    became(w, 11, DONE, 1, NONE);
    became(w, 13, GATHERED, 0, NONE);
  }

  /** Of two that end at once, the smaller head goes first: as it fails, the other one does not try again; not the other way round. */
  private static void stoppedAtTheSameTime() {
    Check.promise(18);
    for (int first = 0; first < 2; first++) {
      Buildkeeper x = new Buildkeeper();
      tell(x, 10, 0, 2);
      tell(x, 11, 0, 2);
      tell(x, 13, 6, 1, 10, 11);
      x.mode(false, 1);
      x.fault(10, first == 0 ? 2 : 1);
      x.fault(11, 1);
      // both fail at 2; at 4 what ends together with the one that fails is done nevertheless
      Check.is(x.build(13, 2, 0), 4);
      Check.is(x.ofBuild(10, 0), first == 0 ? FAILED : DONE);
      Check.is(x.ofBuild(11, 0), DONE);
      Check.is(x.ofBuild(13, 0), first == 0 ? STOPPED : GATHERED);
    }
    Buildkeeper y = new Buildkeeper();
    tell(y, 10, 0, 4);
    tell(y, 11, 0, 2);
    tell(y, 13, 6, 1, 10, 11);
    y.mode(false, 1);
    y.fault(11, 2);
    y.fault(10, 1);
    // at 4, 10 begins again ahead of 11, with which all is stopped
    Check.is(y.build(13, 2, 0), 8);
    Check.is(y.trace(), "10@0 11@0 11@2 10@4");
    became(y, 10, DONE, 1, NONE);
    became(y, 11, FAILED, 7, NONE);
    Buildkeeper z = new Buildkeeper();
    tell(z, 10, 0, 2);
    tell(z, 11, 0, 4);
    tell(z, 13, 6, 1, 10, 11);
    z.mode(false, 1);
    z.fault(10, 2);
    z.fault(11, 1);
    Check.is(z.build(13, 2, 0), 4);
    Check.is(z.trace(), "11@0 10@0 10@2");
    became(z, 10, FAILED, 7, NONE);
    became(z, 11, FAILED, 7, NONE);
  }

  /** "All those FAILED (REASON 10, with the first NAME of its NEEDS, then of what it has FOUND, that is not SETTLED) from which a way of waiting leads to themselves." */
  private static void ringsOfWaiting() {
    Check.promise(18);
    // one alone, by itself and by its second product
    Buildkeeper x = new Buildkeeper();
    Scenes.put(x, 1, 2, 10);
    x.put(2, 3);
    tell(x, 10, 4, 1, 1);
    x.second(10, 19);
    Check.is(x.build(10, 1, 0), 0);
    became(x, 10, FAILED, 10, 10);
    x.wipe(1);
    Scenes.put(x, 1, 19, 10);
    x.build(10, 1, 0);
    became(x, 10, FAILED, 10, 19);
    times(x, 10, NONE, 0, 0, NONE);
    // who waits for it, and who waits for that, hang
    x.wipe(1);
    x.put(1, 10);
    tell(x, 20, 0, 1, 10);
    tell(x, 30, 0, 1, 20);
    tell(x, 40, 6, 1, 30);
    x.build(40, 1, 0);
    became(x, 10, FAILED, 10, 10);
    became(x, 20, HANGS, 11, 10);
    became(x, 30, HANGS, 11, 20);
    became(x, 40, HANGS, 11, 30);
    // by a group: it is of the ring, and fails with it
    Buildkeeper y = new Buildkeeper();
    y.put(1, 30);
    tell(y, 10, 4, 1, 1);
    tell(y, 30, 6, 1, 2, 10);
    y.put(2, 1);
    tell(y, 40, 0, 1, 10);
    tell(y, 41, 0, 5, 2);
    tell(y, 42, 6, 1, 41, 40);
    Check.is(y.build(42, 1, 0), 5);
    became(y, 10, FAILED, 10, 30);
    became(y, 30, FAILED, 10, 10);
    became(y, 40, HANGS, 11, 10);
    became(y, 42, HANGS, 11, 40);
    times(y, 10, NONE, 5, 0, NONE);
    // who waits for a ring is not of it, and what two rings have in common fails once
    Buildkeeper z = new Buildkeeper();
    Scenes.put(z, 1, 11, 12);
    z.put(2, 10);
    tell(z, 10, 4, 1, 1);
    tell(z, 11, 4, 1, 2);
    tell(z, 12, 4, 1, 2);
    tell(z, 13, 0, 1, 12);
    z.build(13, 1, 0);
    became(z, 10, FAILED, 10, 11);
    became(z, 11, FAILED, 10, 10);
    became(z, 12, FAILED, 10, 10);
    became(z, 13, HANGS, 11, 12);
    Check.is(z.last(7), 3);
    // "By c. all those FAIL together", as all is stopped by the first of them
    z.mode(false, 0);
    z.build(13, 1, 0);
    became(z, 12, FAILED, 10, 10);
    became(z, 13, STOPPED, 0, NONE);
    Check.is(z.last(7), 3);
    Check.is(z.last(9), 1);
    // "c. tells of no RING then"
    z.step(14, 0, 0, 1);
    z.fault(14, 1);
    tell(z, 15, 6, 1, 13, 14);
    z.build(15, 1, 0);
    became(z, 14, FAILED, 7, NONE);
    became(z, 10, STOPPED, 0, NONE);
    Check.is(z.last(9), 5);
  }

  /** A ring of four, and another one; one of the first waits for the second, too, and looks that way first. */
  private static void longRingsOfWaiting() {
    Check.promise(18);
    Buildkeeper x = new Buildkeeper();
    x.put(1, 23);
    x.put(2, 41);
    tell(x, 20, 4, 1, 1);
    tell(x, 21, 0, 1, 20);
    tell(x, 22, 0, 1, 21);
    tell(x, 40, 4, 1, 2);
    tell(x, 41, 0, 1, 40);
    tell(x, 15, 0, 1, 40);
    tell(x, 23, 0, 1, 15, 22);
    tell(x, 50, 0, 1, 2, 23);
    Check.is(x.build(50, 3, 0), 0);
    became(x, 20, FAILED, 10, 23);
    became(x, 21, FAILED, 10, 20);
    became(x, 22, FAILED, 10, 21);
    became(x, 23, FAILED, 10, 15);
    became(x, 40, FAILED, 10, 41);
    became(x, 41, FAILED, 10, 40);
    became(x, 15, HANGS, 11, 40);
    became(x, 50, HANGS, 11, 23);
    Check.is(x.last(7), 6);
    Check.is(x.last(8), 2);
  }

  /** Who waits for a ring is not of it, however many wait for it in turn. */
  private static void behindARingOfWaiting() {
    Check.promise(18);
    Buildkeeper x = new Buildkeeper();
    x.put(1, 21);
    x.put(2, 3);
    tell(x, 20, 4, 1, 1);
    tell(x, 21, 0, 1, 20);
    tell(x, 10, 0, 1, 20);
    tell(x, 80, 0, 1, 10);
    tell(x, 81, 0, 1, 10);
    tell(x, 90, 0, 1, 80, 81, 10);
    Check.is(x.build(90, 1, 0), 0);
    became(x, 20, FAILED, 10, 21);
    became(x, 21, FAILED, 10, 20);
    became(x, 10, HANGS, 11, 20);
    became(x, 80, HANGS, 11, 10);
    became(x, 81, HANGS, 11, 10);
    became(x, 90, HANGS, 11, 80);
    // one with a smaller head and more needs than those behind it
    tell(x, 5, 0, 1, 1, 2, 10);
    Check.is(x.build(5, 1, 0), 0);
    became(x, 20, FAILED, 10, 21);
    became(x, 10, HANGS, 11, 20);
    became(x, 5, HANGS, 11, 10);
    Check.is(x.last(7), 2);
    Check.is(x.last(8), 2);
  }

  /** "FORETOLD of a STEP: the mean, rounded down, of how many minutes it took in the last three BUILDS (or as many as there are)." */
  private static void foretold() {
    Check.promise(23);
    Buildkeeper x = new Buildkeeper();
    int[] lengths = {1, 2, 4, 9, 9, 1, 1, 3};
    int[] due = {1, 1, 2, 5, 7, 6, 3, 1};
    Check.is(Check.outcome(() -> x.ofStep(99, 9)), "IllegalStateException");
    tell(x, 99, 0, 1);
    tell(x, 98, 0, 7);
    Check.is(x.ofStep(99, 9), NONE);
    for (int i = 0; i < lengths.length; i++) {
      x.step(99, 0, 0, lengths[i]);
      if (i % 2 == 0) {
        x.remove(99);
      } else {
        // SAME counts as well
        x.step(99, 0, i, lengths[i]);
      }
      x.build(99, 1, 0);
      Check.is(x.ofBuild(99, 0), i % 2 == 0 ? DONE : SAME);
      Check.is(x.ofStep(99, 9), due[i]);
      Check.is(x.ofStep(99, 6), i + 1);
      Check.is(x.ofStep(98, 9), NONE);
    }
    // CLEAN, FAILED and FETCHED do not
    x.step(99, 0, 50, 9);
    x.fault(99, 1);
    x.build(99, 1, 0);
    Check.is(x.ofBuild(99, 0), FAILED);
    Check.is(x.ofStep(99, 9), 1);
    x.build(99, 1, 0);
    Check.is(x.ofStep(99, 9), 4);
    x.build(99, 1, 0);
    Check.is(x.ofBuild(99, 0), CLEAN);
    x.cache(1);
    x.step(98, 0, 50, 5);
    x.build(98, 1, 0);
    x.remove(99);
    x.build(99, 1, 0);
    Check.is(x.ofBuild(99, 0), FETCHED);
    Check.is(x.ofStep(99, 9), 4);
    Check.is(x.ofStep(99, 6), 9);
    Check.is(x.ofStep(99, 7), 1);
    // "with all TRIES of that BUILD", the shaken ones, too
    x.cache(0);
    x.mode(true, 3);
    x.step(98, 0, 51, 1);
    x.fault(98, 3);
    x.build(98, 1, 1);
    Check.is(x.ofStep(98, 9), (5 + 4 * 3) / 2);
  }

  /** "The last BUILD that was not REFUSED can be asked; of those the last 8 are HISTORY." */
  private static void history() {
    Check.promise(39);
    Buildkeeper x = new Buildkeeper();
    for (int head = 10; head < 30; head++) {
      tell(x, head, 0, 1 + head % 9);
    }
    for (int builds = 1; builds <= 17; builds++) {
      x.build(9 + builds, 1 + builds % 6, 0);
      for (int nth = 0; nth <= 7; nth++) {
        boolean isOne = nth < builds;
        Check.is(x.history(nth, 0), isOne ? 9 + builds - nth : NONE);
        Check.is(x.history(nth, 1), isOne ? 1 + (builds - nth) % 6 : NONE);
        Check.is(x.history(nth, 2), isOne ? 1 + (9 + builds - nth) % 9 : NONE);
      }
      Check.is(x.last(0), 9 + builds);
    }
    Check.argument(() -> x.history(8, 0));
    Check.argument(() -> x.history(-1, 0));
    // would() is none
    x.would(29, 1, 2);
    Check.is(x.history(0, 0), 26);
    Check.is(x.house(4), 17);
  }

  /** 24 own steps and 40 by patterns, each of which fails three times and then ends. */
  private static void theMostTries() {
    Check.promise(38);
    Buildkeeper x = new Buildkeeper();
    for (int ending = 1; ending <= 4; ending++) {
      x.pattern(ending, ending - 1, 0, 0, 1);
    }
    for (int head = 0; head < 100; head += 10) {
      x.step(head, 0, 0, 1);
    }
    // each needs some of those by patterns, and the one told before it
    int needed = 0;
    int before = NONE;
    for (int head : new int[] {6, 7, 8, 9, 16, 17, 18, 19, 26, 27, 28, 29, 36}) {
      x.step(head, 0, 0, 1);
      if (before >= 0) {
        x.need(head, before);
      }
      for (int i = 0; i < 4 && needed < 10; i++) {
        x.need(head, 10 * needed + 4);
        needed++;
      }
      before = head;
    }
    x.step(37, 2, 0, 1);
    x.need(37, 36);
    x.mode(true, 3);
    for (int head = 0; head < 100; head++) {
      if (x.ofName(head, 2) == head) {
        x.fault(head, 3);
      }
    }
    Check.is(x.build(37, 6, 0) > 0, true);
    Check.is(x.last(11), 64);
    Check.is(x.last(3), 64);
    int spaces = 0;
    for (char c : x.trace().toCharArray()) {
      spaces += c == ' ' ? 1 : 0;
    }
    Check.is(spaces, 64 * 4 - 1);
    Check.is(x.ofBuild(37, 5), 4);
  }
}
