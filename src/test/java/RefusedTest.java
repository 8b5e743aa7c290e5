/**
 * Every REFUSED, and the call next to it that is not: "what is told so is counted, ever, and nothing else changes". After
 * each such call the keeper is like one that refused another thing, nobody().
 */
public final class RefusedTest {
  interface Call {
    int on(Buildkeeper x);
  }

  interface Scene {
    Buildkeeper make();
  }

  private static final int REFUSED = -9;

  private static Scene scene;

  public static void main(String[] args) {
    scene = Scenes::full;
    needs();
    patterns();
    products();
    others();
    scene = Scenes::ringed;
    rings();
    scene = Scenes::bare;
    withNothingTold();
    theCount();
    Check.end();
  }

  private static void refused(Call call) {
    refused(x -> 0, call);
  }

  /** The first call comes ahead of it on both keepers. */
  private static void refused(Call ahead, Call call) {
    Buildkeeper x = scene.make();
    ahead.on(x);
    int before = x.house(5);
    Check.is(call.on(x), REFUSED);
    Check.is(x.house(5), before + 1);
    Buildkeeper twin = scene.make();
    ahead.on(twin);
    twin.nobody();
    Check.is(Sight.of(x), Sight.of(twin));
  }

  private static void answered(int due, Call call) {
    Buildkeeper x = scene.make();
    int before = x.house(5);
    Check.is(call.on(x), due);
    Check.is(x.house(5), before);
  }

  private static void needs() {
    Check.promise(7);
    // "(or name is one)", its own and its second product
    refused(x -> x.need(10, 10));
    refused(x -> x.need(10, 19));
    refused(x -> x.need(14, 29));
    refused(x -> x.need(60, 60));
    // "if a way of needs would lead from name to a PRODUCT of it": of one need, of two, of three, to the second one alone
    refused(x -> x.need(10, 11));
    refused(x -> x.need(10, 12));
    refused(x -> x.need(10, 14));
    refused(x -> x.need(10, 29));
    refused(x -> x.unneed(11, 0), x -> x.need(10, 11));
    // by what patterns need
    refused(x -> x.need(13, 15));
    refused(x -> x.need(13, 18));
    answered(3, x -> x.need(10, 5));
    answered(3, x -> x.need(10, 1));
    answered(3, x -> x.need(14, 10));
    answered(3, x -> x.need(13, 10));
    answered(3, x -> x.need(10, 99));
    answered(1, x -> x.need(60, 18));
    // what is found is no need: 13 finds 10 and 20
    answered(3, x -> x.need(10, 13));
    answered(3, x -> {
      x.unneed(11, 0);
      x.unneed(11, 0);
      return x.need(10, 11);
    });
  }

  private static void patterns() {
    Check.promise(10);
    // the patterns lead from 8 by 7, 6 and 5 to 4
    refused(x -> x.pattern(7, 8, 0, 0, 1));
    refused(x -> x.pattern(6, 8, 0, 0, 1));
    refused(x -> x.pattern(5, 8, 0, 0, 1));
    refused(x -> x.pattern(5, 6, 0, 0, 1));
    // "by other PATTERNS": the one in whose place it comes does not count
    answered(4, x -> x.pattern(8, 7, 3, 0, 1));
    answered(4, x -> x.pattern(8, 5, 0, 0, 1));
    answered(4, x -> x.pattern(5, 3, 0, 0, 1));
    answered(4, x -> x.pattern(5, 0, 0, 0, 1));
    answered(4, x -> x.pattern(7, 0, 0, 0, 1));
    answered(4, x -> {
      x.unpattern(5);
      return x.pattern(4, 3, 0, 0, 1);
    });
    answered(4, x -> {
      x.unpattern(8);
      return x.pattern(4, 8, 0, 0, 1);
    });
    refused(x -> x.unpattern(8), x -> x.pattern(4, 7, 0, 0, 1));
    Check.promise(11);
    // "REFUSED if none has that to": a from is none
    refused(x -> x.unpattern(4));
    refused(x -> x.unpattern(9));
    refused(x -> x.unpattern(0));
    answered(3, x -> x.unpattern(8));
    answered(3, x -> x.unpattern(5));
    refused(x -> x.unpattern(5), x -> x.unpattern(5));
  }

  private static void products() {
    // "REFUSED if it is not THERE": 60 was never built, 15 is one by a pattern, 14 and 29 are of a group
    for (int name : new int[] {60, 15, 14, 29}) {
      Check.promise(14);
      refused(x -> x.alter(name, 0));
      Check.promise(15);
      refused(x -> x.remove(name));
    }
    Check.promise(14);
    answered(1, x -> x.alter(11, 0));
    answered(1, x -> x.alter(19, 99));
    answered(3, x -> x.alter(10, 3));
    answered(1, x -> x.alter(8, 3));
    answered(0, x -> {
      x.build(60, 1, 0);
      return x.alter(60, 3);
    });
    refused(x -> x.remove(10), x -> x.alter(10, 3));
    Check.promise(15);
    answered(3, x -> x.remove(10));
    answered(1, x -> x.remove(19));
    refused(x -> x.remove(19), x -> x.remove(19));
  }

  private static void others() {
    Check.promise(17);
    // "REFUSED if there is no such entry": there are 3
    refused(x -> x.poison(3, 0));
    refused(x -> x.poison(-1, 0));
    refused(x -> x.poison(12, 99));
    refused(x -> x.poison(Integer.MIN_VALUE, 0));
    refused(x -> x.poison(Integer.MAX_VALUE, 0));
    answered(1, x -> x.poison(0, 0));
    answered(1, x -> x.poison(2, 0));
    refused(x -> x.cache(2), x -> x.poison(2, 0));
    Check.promise(28);
    // "REFUSED if from is above to"
    refused(x -> x.between(1, 0));
    refused(x -> x.between(99, 98));
    refused(x -> x.between(99, 0));
    answered(24, x -> x.between(0, 99));
    answered(1, x -> x.between(10, 10));
    answered(0, x -> x.between(0, 0));
    answered(0, x -> x.between(99, 99));
    Check.promise(45);
    refused(x -> x.blank());
    Check.promise(46);
    refused(x -> x.nobody());
  }

  private static void rings() {
    Check.promise(18);
    // "REFUSED if there is a RING", also one that the goal has nothing to do with
    refused(x -> x.build(11, 1, 0));
    refused(x -> x.build(30, 6, 9));
    answered(0, x -> {
      x.second(30, 30);
      return x.build(11, 1, 0);
    });
    Check.promise(31);
    refused(x -> x.ways(11, 1));
    refused(x -> x.ways(31, 31));
    refused(x -> x.ways(50, 50));
    answered(2, x -> {
      x.unneed(30, 0);
      return x.ways(11, 1);
    });
    Check.promise(34);
    refused(x -> x.longest(11));
    refused(x -> x.longest(99));
    answered(6, x -> {
      x.strike(30);
      return x.longest(11);
    });
    Check.promise(35);
    refused(x -> x.plain(11, 0));
    refused(x -> x.plain(99, 9));
    Check.promise(40);
    refused(x -> x.would(11, 1, 2));
    refused(x -> x.would(30, 6, 11));
    answered(2, x -> {
      x.second(30, 32);
      return x.would(11, 1, 11);
    });
    Check.promise(41);
    refused(x -> x.wouldDo(11, 0));
    refused(x -> x.wouldDo(30, 99));
    // these are not refused, and so not counted
    Check.promise(32);
    answered(0, x -> x.way(11, 1, 0).length());
    Check.promise(33);
    answered(5, x -> x.ring(31).length());
    Check.promise(49);
    answered(1, x -> x.isSound() ? 1 : 0);
    Check.promise(42);
    answered(1, x -> x.scratch(30).equals("?") ? 1 : 0);
  }

  private static void withNothingTold() {
    Check.promise(11);
    refused(x -> x.unpattern(0));
    Check.promise(17);
    refused(x -> x.poison(0, 0));
    Check.promise(28);
    refused(x -> x.between(1, 0));
    Check.promise(45);
    refused(x -> x.blank());
    Check.promise(46);
    refused(x -> x.nobody());
    Check.promise(31);
    answered(0, x -> x.ways(0, 99));
    Check.promise(34);
    answered(0, x -> x.longest(0));
    Check.promise(35);
    answered(-1, x -> x.plain(0, 0));
  }

  /** "An object is used for at most 512 calls": each of them may be refused. */
  private static void theCount() {
    Check.promise(48);
    Buildkeeper x = new Buildkeeper();
    for (int i = 0; i < 511; i++) {
      Check.is(i % 2 == 0 ? x.blank() : x.nobody(), REFUSED);
    }
    Check.is(x.house(5), 511);
  }
}
