/** Keepers for tests to begin with; each call makes a new one, and always the same. */
final class Scenes {
  private Scenes() {
  }

  static Buildkeeper bare() {
    return new Buildkeeper();
  }

  /** 1 has 5 and 3; 10 joins 1 and counts it in 19; 11 sorts 10, then 19. */
  static Buildkeeper small() {
    Buildkeeper x = new Buildkeeper();
    put(x, 1, 5, 3);
    x.step(10, 0, 0, 4);
    x.second(10, 19);
    x.need(10, 1);
    x.step(11, 1, 0, 2);
    x.need(11, 10);
    x.need(11, 19);
    return x;
  }

  /** The small one, built, with a ring elsewhere: 30 needs 31, its second product. */
  static Buildkeeper ringed() {
    Buildkeeper x = small();
    x.build(11, 1, 0);
    x.step(30, 0, 0, 1);
    x.need(30, 31);
    x.second(30, 31);
    return x;
  }

  /**
   * Some of everything, and all rows full: 1 has 8 numbers; there are 24 own steps and 4 patterns; 12 has 6 needs; 13
   * includes; 14, with 29, is a group; 10 has the second product 19; 5 to 8 come by patterns; 60 to 77 need nothing and
   * were never built; the cache has 3 entries.
   */
  static Buildkeeper full() {
    Buildkeeper x = new Buildkeeper();
    put(x, 1, 8, 7, 6, 5, 4, 3, 2, 1);
    put(x, 2, 1, 2, 3, 4, 5, 6, 7);
    put(x, 3, 10, 20);
    put(x, 4, 0);
    step(x, 10, 0, 4, 3);
    x.second(10, 19);
    step(x, 11, 1, 10, 19);
    step(x, 12, 2, 1, 2, 3, 4, 10, 11);
    step(x, 13, 4, 3, 4);
    step(x, 14, 6, 12, 13);
    x.second(14, 29);
    step(x, 20, 5, 2);
    for (int head = 60; head <= 77; head++) {
      step(x, head, 3);
    }
    for (int to = 5; to <= 8; to++) {
      x.pattern(to, to - 1, 0, 0, 2);
    }
    x.cache(3);
    x.mode(true, 1);
    x.build(14, 2, 0);
    x.build(8, 1, 0);
    x.alter(11, 7);
    x.fault(12, 2);
    x.fault(8, 1);
    x.poison(0, 9);
    x.knock();
    x.blank();
    return x;
  }

  static void put(Buildkeeper x, int name, int... numbers) {
    for (int number : numbers) {
      x.put(name, number);
    }
  }

  /** Tells a step of 3 minutes with the parameter 5. */
  static void step(Buildkeeper x, int head, int kind, int... needs) {
    x.step(head, kind, 5, 3);
    for (int need : needs) {
      x.need(head, need);
    }
  }
}
