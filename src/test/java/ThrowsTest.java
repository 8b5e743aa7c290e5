/**
 * Every "Throws" that is not about the range of an argument alone, and which of two exceptions is thrown, if both apply.
 * "A method that throws an exception changes nothing": after each call the keeper is like one on which it was not called.
 */
public final class ThrowsTest {
  interface Call {
    Object on(Buildkeeper x);
  }

  interface Scene {
    Buildkeeper make();
  }

  /** In the full scene: neither a source nor a product. */
  private static final int NOTHING = 99;
  private static final int SOURCE = 1;
  private static final int HEAD = 10;
  private static final int SECOND = 19;
  private static final int BY_PATTERN = 5;
  private static final int GROUP = 14;
  private static final int SECOND_OF_GROUP = 29;
  private static final int NOT_THERE = 60;
  /** It has all the needs that it can have. */
  private static final int FULL_HEAD = 12;
  private static final int[] NO_OWN_HEADS = {NOTHING, SOURCE, SECOND, BY_PATTERN, SECOND_OF_GROUP, 0};
  private static final int[] NO_HEADS = {NOTHING, SOURCE, SECOND, SECOND_OF_GROUP, 0};

  private static Scene scene;

  public static void main(String[] args) {
    scene = Scenes::full;
    sources();
    stepsAndSeconds();
    needs();
    patternsAndFaults();
    products();
    builds();
    questions();
    scene = Scenes::ringed;
    aheadOfRings();
    scene = Scenes::bare;
    withNothingTold();
    Check.end();
  }

  private static void index(Call call) {
    check("IndexOutOfBoundsException", call);
  }

  private static void argument(Call call) {
    check("IllegalArgumentException", call);
  }

  private static void state(Call call) {
    check("IllegalStateException", call);
  }

  private static void check(String due, Call call) {
    Buildkeeper x = scene.make();
    Check.is(Check.outcome(() -> call.on(x)), due);
    Check.is(Sight.of(x), Sight.of(scene.make()));
  }

  private static void sources() {
    Check.promise(2);
    // "if it is a PRODUCT of an own STEP, or has 8"
    for (int name : new int[] {HEAD, SECOND, GROUP, SECOND_OF_GROUP, NOT_THERE, SOURCE}) {
      state(x -> x.put(name, 0));
      argument(x -> x.put(name, 100));
      argument(x -> x.put(name, -1));
    }
    index(x -> x.put(100, 100));
    for (int name : new int[] {NOTHING, HEAD, SECOND, BY_PATTERN, GROUP}) {
      // "if it is no SOURCE"
      Check.promise(3);
      state(x -> x.wipe(name));
      Check.promise(4);
      state(x -> x.drop(name));
    }
  }

  private static void stepsAndSeconds() {
    Check.promise(5);
    // "if it is a SOURCE, or the second PRODUCT of a STEP, or there are 24 and it is not one of them"
    for (int name : new int[] {SOURCE, SECOND, SECOND_OF_GROUP, NOTHING, BY_PATTERN}) {
      state(x -> x.step(name, 0, 0, 1));
      state(x -> x.step(name, 6, 99, 9));
      argument(x -> x.step(name, 7, 0, 1));
      argument(x -> x.step(name, 0, 100, 1));
      argument(x -> x.step(name, 0, 0, 10));
    }
    index(x -> x.step(100, -1, -1, 0));
    Check.promise(6);
    for (int head : NO_OWN_HEADS) {
      state(x -> x.second(head, 98));
      state(x -> x.second(head, head));
      index(x -> x.second(head, 100));
    }
    index(x -> x.second(-1, SOURCE));
    // "or name is a SOURCE, or a PRODUCT of another own STEP"
    for (int name : new int[] {SOURCE, FULL_HEAD, GROUP, SECOND_OF_GROUP, NOT_THERE}) {
      state(x -> x.second(HEAD, name));
    }
    state(x -> x.second(GROUP, SECOND));
    Check.promise(9);
    for (int head : NO_OWN_HEADS) {
      state(x -> x.strike(head));
    }
  }

  private static void needs() {
    Check.promise(7);
    for (int head : NO_OWN_HEADS) {
      state(x -> x.need(head, 98));
      index(x -> x.need(head, -1));
    }
    // "or it has 6 NEEDS, or this one"
    state(x -> x.need(FULL_HEAD, 98));
    state(x -> x.need(FULL_HEAD, 1));
    state(x -> x.need(HEAD, 4));
    state(x -> x.need(HEAD, 3));
    // ahead of REFUSED
    state(x -> x.need(FULL_HEAD, FULL_HEAD));
    state(x -> x.need(FULL_HEAD, GROUP));
    Check.promise(8);
    for (int head : NO_OWN_HEADS) {
      state(x -> x.unneed(head, 0));
      state(x -> x.unneed(head, -1));
      state(x -> x.unneed(head, 6));
    }
    // "if it has no NEED at that place"
    for (int place : new int[] {-1, 6, Integer.MIN_VALUE, Integer.MAX_VALUE}) {
      argument(x -> x.unneed(FULL_HEAD, place));
    }
    argument(x -> x.unneed(HEAD, 2));
    argument(x -> x.unneed(NOT_THERE, 0));
    Check.promise(24);
    for (int head : NO_HEADS) {
      state(x -> x.needOf(head, 0));
      state(x -> x.needOf(head, -1));
    }
    argument(x -> x.needOf(HEAD, 2));
    argument(x -> x.needOf(BY_PATTERN, 1));
    argument(x -> x.needOf(NOT_THERE, 0));
  }

  private static void patternsAndFaults() {
    Check.promise(10);
    // "if there are 4, and none has that to"
    state(x -> x.pattern(9, 3, 0, 0, 1));
    state(x -> x.pattern(0, 9, 3, 99, 9));
    // ahead of REFUSED: by 8, 7, 6 and 5 one could come to 4
    state(x -> x.pattern(4, 8, 0, 0, 1));
    argument(x -> x.pattern(4, 4, 0, 0, 1));
    argument(x -> x.pattern(4, 8, 4, 0, 1));
    argument(x -> x.pattern(5, 8, 0, 100, 1));
    argument(x -> x.pattern(5, 8, 0, 0, 0));
    index(x -> x.pattern(10, 10, 0, 0, 1));
    index(x -> x.pattern(-1, 8, 9, 0, 1));
    Check.promise(12);
    // "if there is no STEP with that HEAD, or it is a GROUP"
    for (int head : new int[] {NOTHING, SOURCE, SECOND, GROUP, SECOND_OF_GROUP}) {
      state(x -> x.fault(head, 0));
      state(x -> x.fault(head, 9));
      argument(x -> x.fault(head, 10));
      argument(x -> x.fault(head, -1));
    }
    index(x -> x.fault(100, 10));
  }

  private static void products() {
    for (int name : new int[] {NOTHING, SOURCE, 0}) {
      // "if it is no PRODUCT"
      Check.promise(14);
      state(x -> x.alter(name, 0));
      argument(x -> x.alter(name, 100));
      Check.promise(15);
      state(x -> x.remove(name));
    }
    Check.promise(14);
    index(x -> x.alter(100, 100));
    // ahead of REFUSED
    argument(x -> x.alter(NOT_THERE, 100));
    argument(x -> x.alter(GROUP, -1));
    index(x -> x.alter(-1, 0));
    Check.promise(17);
    argument(x -> x.poison(3, 100));
    argument(x -> x.poison(-1, -1));
  }

  private static void builds() {
    for (int goal : new int[] {NOTHING, SOURCE, 0}) {
      // "if there is no STEP of goal"
      Check.promise(18);
      state(x -> x.build(goal, 1, 0));
      argument(x -> x.build(goal, 0, 0));
      argument(x -> x.build(goal, 6, 10));
      Check.promise(40);
      state(x -> x.would(goal, 6, 11));
      argument(x -> x.would(goal, 7, 2));
      argument(x -> x.would(goal, 1, 1));
      Check.promise(41);
      state(x -> x.wouldDo(goal, 0));
      argument(x -> x.wouldDo(goal, -1));
    }
    Check.promise(18);
    index(x -> x.build(100, 7, 10));
    Check.promise(40);
    index(x -> x.would(100, 7, 12));
    Check.promise(41);
    index(x -> x.wouldDo(100, -1));
  }

  private static void questions() {
    for (int head : NO_HEADS) {
      // "if there is no STEP with that HEAD", which is named ahead of what is asked
      Check.promise(23);
      state(x -> x.ofStep(head, 0));
      state(x -> x.ofStep(head, -1));
      state(x -> x.ofStep(head, 10));
      Check.promise(25);
      state(x -> x.readOf(head, 0));
      state(x -> x.readOf(head, -1));
      Check.promise(26);
      state(x -> x.readSum(head, 0));
      state(x -> x.readSum(head, -1));
    }
    Check.promise(23);
    argument(x -> x.ofStep(BY_PATTERN, 10));
    index(x -> x.ofStep(100, 10));
    Check.promise(25);
    index(x -> x.readOf(100, -1));
    Check.promise(26);
    index(x -> x.readSum(100, -1));
    // "or it has no such NUMBER"
    Check.promise(20);
    index(x -> x.number(SOURCE, 8));
    index(x -> x.number(SOURCE, -1));
    index(x -> x.number(2, 7));
    index(x -> x.number(SECOND, 1));
    index(x -> x.number(NOTHING, 0));
    index(x -> x.number(NOT_THERE, 0));
    index(x -> x.number(GROUP, 0));
    index(x -> x.number(SECOND_OF_GROUP, 0));
  }

  /** "An exception goes ahead of it": none of these is REFUSED, and counted. */
  private static void aheadOfRings() {
    Check.promise(18);
    index(x -> x.build(100, 1, 0));
    argument(x -> x.build(11, 7, 0));
    argument(x -> x.build(11, 1, 10));
    state(x -> x.build(1, 1, 0));
    Check.promise(31);
    index(x -> x.ways(-1, 0));
    index(x -> x.ways(0, 100));
    Check.promise(34);
    index(x -> x.longest(100));
    Check.promise(35);
    index(x -> x.plain(-1, 0));
    argument(x -> x.plain(11, -1));
    Check.promise(40);
    argument(x -> x.would(11, 0, 2));
    argument(x -> x.would(11, 1, 12));
    state(x -> x.would(1, 1, 2));
    Check.promise(41);
    argument(x -> x.wouldDo(11, -1));
    state(x -> x.wouldDo(1, 0));
    Check.promise(32);
    argument(x -> x.way(11, 1, 100));
    Check.promise(28);
    index(x -> x.between(100, 99));
    index(x -> x.between(0, -1));
    Check.promise(7);
    state(x -> x.need(30, 31));
  }

  private static void withNothingTold() {
    Check.promise(3);
    state(x -> x.wipe(0));
    Check.promise(4);
    state(x -> x.drop(99));
    Check.promise(6);
    state(x -> x.second(0, 0));
    Check.promise(7);
    state(x -> x.need(0, 0));
    Check.promise(8);
    state(x -> x.unneed(0, 0));
    Check.promise(9);
    state(x -> x.strike(0));
    Check.promise(12);
    state(x -> x.fault(0, 0));
    Check.promise(14);
    state(x -> x.alter(0, 0));
    Check.promise(15);
    state(x -> x.remove(0));
    Check.promise(18);
    state(x -> x.build(0, 1, 0));
    Check.promise(20);
    index(x -> x.number(0, 0));
    Check.promise(23);
    state(x -> x.ofStep(0, 0));
    Check.promise(40);
    state(x -> x.would(0, 1, 2));
    Check.promise(41);
    state(x -> x.wouldDo(0, 0));
  }
}
