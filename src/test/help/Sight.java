/** All that can be seen of a keeper, so that two can be compared; it asks some 250 times, and builds in the end. */
final class Sight {
  private Sight() {
  }

  static String of(Buildkeeper x) {
    StringBuilder out = new StringBuilder();
    addAll(out, x);
    for (int name = 0; name < 100; name++) {
      out.append(' ').append(x.text(name));
    }
    for (int nth = 2; nth < 8; nth++) {
      for (int what = 0; what < 12; what++) {
        out.append(' ').append(x.history(nth, what));
      }
    }
    // what can't be asked for shows itself as one builds: keys of the cache, faults, weights
    for (int goal : new int[] {8, 14, 11}) {
      out.append(' ').append(Check.outcome(() -> x.build(goal, 2, 3)));
      addAll(out, x);
    }
    return out.toString();
  }

  private static void addAll(StringBuilder out, Buildkeeper x) {
    out.append(" digest ").append(x.digest()).append(' ').append(x.trace());
    for (int place = 0; place < 13; place++) {
      out.append(' ').append(x.cachedAt(place));
    }
  }
}
