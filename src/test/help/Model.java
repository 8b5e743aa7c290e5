import java.util.ArrayDeque;
import java.util.ArrayList;
import java.util.Arrays;
import java.util.Collections;
import java.util.HashMap;
import java.util.HashSet;
import java.util.LinkedHashSet;
import java.util.List;
import java.util.Map;
import java.util.Objects;
import java.util.Set;
import java.util.TreeMap;
import java.util.TreeSet;

/** The document once more, as literally as can be, with the Java library and without regard to speed or room. */
final class Model {
  static final int NONE = -1;
  static final int REFUSED = -9;

  record Rule(int kind, int parameter) {}

  record Pattern(int from, Rule rule, int length) {}

  /** A step, own or by a pattern. */
  record Step(int head, Rule rule, int length, int second, List<Integer> needs) {
    boolean isGroup() { return rule.kind() == 6; }
    List<Integer> products() { return second < 0 ? List.of(head) : List.of(head, second); }
  }

  record Rec(Rule rule, List<Integer> names, List<Long> sums, int needs, Map<Integer, Long> productSums) {}

  static final class Own {
    Rule rule;
    int length;
    int second = NONE;
    final List<Integer> needs = new ArrayList<>();
  }

  static final class Kept {
    Rec rec;
    int faults;
    int doneOrSame;
    int fetched;
    final List<Integer> minutes = new ArrayList<>();
    Kept copy() {
      Kept k = new Kept();
      k.rec = rec;
      k.faults = faults;
      k.doneOrSame = doneOrSame;
      k.fetched = fetched;
      k.minutes.addAll(minutes);
      return k;
    }
  }

  static final class Entry {
    Rule rule;
    List<Long> sums;
    List<Integer> result;
    long sum;
    Entry copy() {
      Entry e = new Entry();
      e.rule = rule;
      e.sums = sums;
      e.result = result;
      e.sum = sum;
      return e;
    }
  }

  static final class Look {
    int reason;
    int name = NONE;
    Look(int reason, int name) { this.reason = reason; this.name = name; }
  }

  static final class State {
    String is = "waits";
    int reason;
    int name = NONE;
    int began = NONE;
    int settled = NONE;
    int tries;
    int hand = NONE;
    int weight;
    int ends;
    List<Integer> found;
  }

  static final class Build {
    final TreeMap<Integer, State> states = new TreeMap<>();
    final List<String> trace = new ArrayList<>();
    int goal;
    int hands;
    int shake;
    int now;
    boolean stopped;
    int[] told = new int[12];
  }

  final TreeMap<Integer, List<Integer>> sources = new TreeMap<>();
  final TreeMap<Integer, Own> own = new TreeMap<>();
  final TreeMap<Integer, Pattern> patterns = new TreeMap<>();
  final TreeMap<Integer, List<Integer>> there = new TreeMap<>();
  final TreeMap<Integer, Kept> kept = new TreeMap<>();
  final List<Entry> cache = new ArrayList<>();
  final List<Build> builds = new ArrayList<>();
  int bound;
  int fetched;
  int missed;
  int wrong;
  boolean isKept = true;
  int retries;
  int refused;
  int knocks;

  Model copy() {
    Model m = new Model();
    sources.forEach((k, v) -> m.sources.put(k, new ArrayList<>(v)));
    own.forEach((k, v) -> {
      Own o = new Own();
      o.rule = v.rule;
      o.length = v.length;
      o.second = v.second;
      o.needs.addAll(v.needs);
      m.own.put(k, o);
    });
    m.patterns.putAll(patterns);
    there.forEach((k, v) -> m.there.put(k, new ArrayList<>(v)));
    kept.forEach((k, v) -> m.kept.put(k, v.copy()));
    for (Entry e : cache) m.cache.add(e.copy());
    m.builds.addAll(builds);
    m.bound = bound;
    m.fetched = fetched;
    m.missed = missed;
    m.wrong = wrong;
    m.isKept = isKept;
    m.retries = retries;
    return m;
  }

  // ---- what a name is

  Step stepOf(int name) {
    for (var e : own.entrySet()) {
      if (e.getKey() == name || e.getValue().second == name) {
        Own o = e.getValue();
        return new Step(e.getKey(), o.rule, o.length, o.second, new ArrayList<>(o.needs));
      }
    }
    if (sources.containsKey(name)) return null;
    Pattern p = patterns.get(name % 10);
    if (p == null) return null;
    int origin = name / 10 * 10 + p.from();
    if (!sources.containsKey(origin) && stepOf(origin) == null) return null;
    return new Step(name, p.rule(), p.length(), NONE, List.of(origin));
  }

  boolean isOwnProduct(int name) {
    return own.containsKey(name) || own.values().stream().anyMatch(o -> o.second == name);
  }

  int sort(int name) {
    if (sources.containsKey(name)) return 1;
    if (isOwnProduct(name)) return 2;
    return stepOf(name) != null ? 3 : 0;
  }

  List<Integer> content(int name) {
    if (sources.containsKey(name)) return sources.get(name);
    Step s = stepOf(name);
    if (s == null) return null;
    if (s.isGroup()) return List.of();
    return there.get(name);
  }

  static long sumOf(List<Integer> content) {
    long sum = 0;
    for (int v : content) sum = sum * 101 + v + 1;
    return sum;
  }

  Kept keptOf(int head) { return kept.computeIfAbsent(head, h -> new Kept()); }

  void forget(int name) {
    there.remove(name);
    kept.remove(name);
  }

  List<Step> allSteps() {
    List<Step> all = new ArrayList<>();
    for (int n = 0; n < 100; n++) {
      Step s = stepOf(n);
      if (s != null && s.head() == n) all.add(s);
    }
    return all;
  }

  // ---- ways

  List<Integer> needsOfName(int name) {
    Step s = stepOf(name);
    return s == null ? List.of() : s.needs();
  }

  Set<Integer> reached(int from) {
    Set<Integer> seen = new LinkedHashSet<>();
    ArrayDeque<Integer> todo = new ArrayDeque<>(needsOfName(from));
    while (!todo.isEmpty()) {
      int n = todo.poll();
      if (seen.add(n)) todo.addAll(needsOfName(n));
    }
    return seen;
  }

  boolean hasRing() {
    for (int n = 0; n < 100; n++) if (stepOf(n) != null && reached(n).contains(n)) return true;
    return false;
  }

  int countWays(int from, int to, Map<Integer, Integer> memo) {
    Integer old = memo.get(from);
    if (old != null) return old;
    int total = 0;
    for (int n : needsOfName(from)) total = Math.min(1000000, total + (n == to ? 1 : countWays(n, to, memo)));
    memo.put(from, total);
    return total;
  }

  void listWays(int name, int to, String before, List<String> out, Map<Integer, Integer> memo) {
    if (out.size() > 100) return;
    for (int n : needsOfName(name)) {
      if (n == to) out.add(before + ">" + n);
      else if (countWays(n, to, memo) > 0) listWays(n, to, before + ">" + n, out, memo);
    }
  }

  boolean leadsBack(int from, int to, Set<Integer> gone) {
    if (from == to) return true;
    if (gone.contains(from)) return false;
    Set<Integer> seen = new HashSet<>(gone);
    seen.remove(to);
    ArrayDeque<Integer> todo = new ArrayDeque<>();
    seen.add(from);
    todo.add(from);
    while (!todo.isEmpty()) {
      for (int n : needsOfName(todo.poll())) {
        if (n == to) return true;
        if (seen.add(n)) todo.add(n);
      }
    }
    return false;
  }

  int longestFrom(int name) {
    Step s = stepOf(name);
    if (s == null) return 0;
    int most = 0;
    for (int n : s.needs()) most = Math.max(most, longestFrom(n));
    return most + (s.isGroup() ? 0 : s.length());
  }

  List<Integer> plainOrder(int goal) {
    Set<Integer> names = new TreeSet<>(reached(goal));
    names.add(goal);
    TreeSet<Integer> left = new TreeSet<>();
    for (int n : names) if (stepOf(n) != null) left.add(stepOf(n).head());
    List<Integer> order = new ArrayList<>();
    while (!left.isEmpty()) {
      int next = NONE;
      for (int h : left) {
        boolean can = true;
        for (int n : needsOfName(h)) {
          Step s = stepOf(n);
          if (s != null && !order.contains(s.head())) can = false;
        }
        if (can) {
          next = h;
          break;
        }
      }
      order.add(next);
      left.remove(next);
    }
    return order;
  }

  // ---- reading, making

  List<Integer> found(Step s) {
    if (s.rule().kind() != 4 || s.needs().isEmpty()) return List.of();
    List<Integer> first = content(s.needs().get(0));
    return first == null ? List.of() : new ArrayList<>(first);
  }

  interface Contents { List<Integer> of(int name); }

  static List<Integer> result(Step s, List<Integer> found, Contents contents) {
    List<Integer> join = new ArrayList<>();
    if (s.rule().kind() == 4) {
      for (int n : found) join.addAll(contents.of(n));
      for (int i = 1; i < s.needs().size(); i++) join.addAll(contents.of(s.needs().get(i)));
    } else {
      for (int n : s.needs()) join.addAll(contents.of(n));
    }
    int p = s.rule().parameter();
    switch (s.rule().kind()) {
      case 1: Collections.sort(join); return join;
      case 2: return List.of(join.size());
      case 3: return new ArrayList<>(join.subList(0, Math.min(p, join.size())));
      case 5: join.removeIf(v -> v < p); return join;
      default: return join;
    }
  }

  Look look(Step s, List<Integer> found) {
    Rec r = kept.containsKey(s.head()) ? kept.get(s.head()).rec : null;
    if (r == null) return new Look(1, NONE);
    if (!r.rule().equals(s.rule())) return new Look(2, NONE);
    List<Integer> names = new ArrayList<>(s.needs());
    names.addAll(found);
    for (int i = 0; i < names.size(); i++) {
      if (i >= r.names().size() || !r.names().get(i).equals(names.get(i))) return new Look(3, names.get(i));
    }
    if (r.names().size() > names.size()) return new Look(3, r.names().get(names.size()));
    for (int i = 0; i < names.size(); i++) {
      List<Integer> c = content(names.get(i));
      if (c == null || sumOf(c) != r.sums().get(i)) return new Look(4, names.get(i));
    }
    for (int p : s.products()) if (!there.containsKey(p)) return new Look(5, p);
    for (int p : s.products()) {
      Long sum = r.productSums().get(p);
      if (sum == null || sum != sumOf(there.get(p))) return new Look(6, p);
    }
    return null;
  }

  List<Long> sumsRead(Step s, List<Integer> found) {
    List<Long> sums = new ArrayList<>();
    for (int n : s.needs()) sums.add(sumOf(content(n)));
    for (int n : found) sums.add(sumOf(content(n)));
    return sums;
  }

  void keep(Step s, List<Integer> found, List<Integer> result) {
    there.put(s.head(), new ArrayList<>(result));
    if (s.second() >= 0) there.put(s.second(), new ArrayList<>(List.of(result.size())));
    Map<Integer, Long> productSums = new HashMap<>();
    for (int p : s.products()) productSums.put(p, sumOf(there.get(p)));
    List<Integer> names = new ArrayList<>(s.needs());
    names.addAll(found);
    keptOf(s.head()).rec = new Rec(s.rule(), names, sumsRead(s, found), s.needs().size(), productSums);
  }

  Entry entryFor(Rule rule, List<Long> sums) {
    for (Entry e : cache) if (e.rule.equals(rule) && e.sums.equals(sums)) return e;
    return null;
  }

  void putIn(Rule rule, List<Long> sums, List<Integer> result) {
    if (bound == 0) return;
    Entry e = entryFor(rule, sums);
    if (e != null) cache.remove(e);
    Entry n = new Entry();
    n.rule = rule;
    n.sums = sums;
    n.result = new ArrayList<>(result);
    n.sum = sumOf(result);
    cache.add(n);
    while (cache.size() > bound) cache.remove(0);
  }

  // ---- a build

  static final Set<String> SETTLED = Set.of("clean", "fetched", "done", "same", "failed", "hangs", "gathered");
  static final List<String> NAMES_OF_STATES = List.of("", "clean", "fetched", "done", "same", "failed", "hangs", "stopped", "gathered");

  void want(Build b, int name) {
    Step s = stepOf(name);
    if (s == null || b.states.containsKey(s.head())) return;
    b.states.put(s.head(), new State());
    for (int n : s.needs()) want(b, n);
  }

  boolean settled(Build b, int name) {
    Step s = stepOf(name);
    return s == null || SETTLED.contains(b.states.get(s.head()).is);
  }

  void settle(Build b, int head, String is, int reason, int name) {
    State t = b.states.get(head);
    t.is = is;
    t.reason = reason;
    t.name = name;
    t.settled = b.now;
    if (is.equals("failed") && !isKept) b.stopped = true;
  }

  List<Integer> lookedAt(Step s, State t) {
    List<Integer> names = new ArrayList<>(s.needs());
    if (t.found != null) names.addAll(t.found);
    return names;
  }

  int weight(Build b, int head) {
    Step s = stepOf(head);
    int most = 0;
    for (int u : b.states.keySet()) {
      Step user = stepOf(u);
      for (int p : s.products()) if (user.needs().contains(p)) most = Math.max(most, weight(b, u));
    }
    return most + (s.isGroup() ? 0 : s.length());
  }

  boolean goOnOne(Build b) {
    for (int head : new ArrayList<>(b.states.keySet())) {
      State t = b.states.get(head);
      if (!t.is.equals("waits")) continue;
      Step s = stepOf(head);
      List<Integer> names = lookedAt(s, t);
      if (!names.stream().allMatch(n -> settled(b, n))) continue;
      for (int n : names) {
        if (stepOf(n) == null && !sources.containsKey(n)) {
          settle(b, head, "failed", 9, n);
          return true;
        }
      }
      for (int n : names) {
        Step o = stepOf(n);
        if (o != null && Set.of("failed", "hangs").contains(b.states.get(o.head()).is)) {
          settle(b, head, "hangs", 11, n);
          return true;
        }
      }
      if (s.rule().kind() == 4 && t.found == null) {
        t.found = found(s);
        for (int n : t.found) want(b, n);
        return true;
      }
      if (s.isGroup()) {
        settle(b, head, "gathered", 0, NONE);
        return true;
      }
      List<Integer> found = t.found == null ? List.of() : t.found;
      Look l = look(s, found);
      if (l == null) {
        settle(b, head, "clean", 0, NONE);
        return true;
      }
      List<Long> sums = sumsRead(s, found);
      if (bound > 0) {
        Entry e = entryFor(s.rule(), sums);
        if (e == null) {
          missed++;
        } else if (e.sum != sumOf(e.result)) {
          wrong++;
          cache.remove(e);
        } else {
          cache.remove(e);
          cache.add(e);
          fetched++;
          keep(s, found, e.result);
          keptOf(head).fetched++;
          settle(b, head, "fetched", l.reason, l.name);
          return true;
        }
      }
      t.is = "ready";
      t.reason = l.reason;
      t.name = l.name;
      t.weight = weight(b, head);
      return true;
    }
    return false;
  }

  void beginTry(Build b, int head) {
    State t = b.states.get(head);
    t.tries++;
    t.ends = b.now + stepOf(head).length() + head * b.shake % 4;
    b.trace.add(head + "@" + b.now);
  }

  void beginAll(Build b) {
    while (true) {
      int hand = NONE;
      for (int h = b.hands - 1; h >= 0; h--) {
        int wanted = h;
        if (b.states.values().stream().noneMatch(t -> t.is.equals("work") && t.hand == wanted)) hand = h;
      }
      int best = NONE;
      for (var e : b.states.entrySet()) {
        if (e.getValue().is.equals("ready") && (best < 0 || e.getValue().weight > b.states.get(best).weight)) best = e.getKey();
      }
      if (hand < 0 || best < 0) return;
      State t = b.states.get(best);
      t.is = "work";
      t.hand = hand;
      t.began = b.now;
      beginTry(b, best);
    }
  }

  Set<Integer> awaited(Build b, int head) {
    Set<Integer> out = new LinkedHashSet<>();
    for (int n : lookedAt(stepOf(head), b.states.get(head))) if (!settled(b, n)) out.add(stepOf(n).head());
    return out;
  }

  boolean awaitsItself(Build b, int head) {
    Set<Integer> seen = new HashSet<>();
    ArrayDeque<Integer> todo = new ArrayDeque<>(awaited(b, head));
    while (!todo.isEmpty()) {
      int h = todo.poll();
      if (seen.add(h)) todo.addAll(awaited(b, h));
    }
    return seen.contains(head);
  }

  void failRings(Build b) {
    TreeMap<Integer, Integer> rings = new TreeMap<>();
    for (int head : b.states.keySet()) {
      if (b.states.get(head).is.equals("waits") && awaitsItself(b, head)) {
        for (int n : lookedAt(stepOf(head), b.states.get(head))) {
          if (!settled(b, n)) {
            rings.put(head, n);
            break;
          }
        }
      }
    }
    rings.forEach((h, n) -> settle(b, h, "failed", 10, n));
  }

  void endOne(Build b, int head) {
    State t = b.states.get(head);
    Kept k = keptOf(head);
    if (k.faults > 0) {
      k.faults--;
      if (t.tries <= retries && !b.stopped) beginTry(b, head);
      else settle(b, head, "failed", 7, NONE);
      return;
    }
    Step s = stepOf(head);
    List<Integer> found = t.found == null ? List.of() : t.found;
    List<Integer> result = result(s, found, this::content);
    if (result.size() > 8) {
      settle(b, head, "failed", 8, NONE);
      return;
    }
    boolean same = result.equals(there.get(head))
        && (s.second() < 0 || List.of(result.size()).equals(there.get(s.second())));
    keep(s, found, result);
    putIn(s.rule(), sumsRead(s, found), result);
    k.doneOrSame++;
    k.minutes.add(b.now - t.began);
    settle(b, head, same ? "same" : "done", t.reason, t.name);
  }

  Build run(int goal, int hands, int shake) {
    Build b = new Build();
    b.goal = goal;
    b.hands = hands;
    b.shake = shake;
    want(b, goal);
    while (true) {
      while (!b.stopped && goOnOne(b)) { }
      if (!b.stopped) beginAll(b);
      if (b.states.values().stream().noneMatch(t -> t.is.equals("work"))) {
        if (b.stopped || b.states.values().stream().allMatch(t -> SETTLED.contains(t.is))) break;
        failRings(b);
        continue;
      }
      b.now = b.states.values().stream().filter(t -> t.is.equals("work")).mapToInt(t -> t.ends).min().getAsInt();
      for (int head : b.states.keySet()) {
        State t = b.states.get(head);
        if (t.is.equals("work") && t.ends == b.now) endOne(b, head);
      }
    }
    for (State t : b.states.values()) if (!SETTLED.contains(t.is)) t.is = "stopped";
    b.told[0] = goal;
    b.told[1] = hands;
    b.told[2] = b.now;
    List<String> counted = List.of("done", "same", "clean", "fetched", "failed", "hangs", "stopped", "gathered");
    for (int i = 0; i < 8; i++) {
      String is = counted.get(i);
      b.told[3 + i] = (int) b.states.values().stream().filter(t -> t.is.equals(is)).count();
    }
    b.told[11] = b.states.size();
    return b;
  }

  // ---- from nothing

  /** Null if there is none. */
  List<Integer> scratchOf(int name, Set<Integer> open) {
    if (sources.containsKey(name)) return sources.get(name);
    Step s = stepOf(name);
    if (s == null || open.contains(s.head())) return null;
    Set<Integer> now = new HashSet<>(open);
    now.add(s.head());
    Map<Integer, List<Integer>> read = new HashMap<>();
    for (int n : s.needs()) {
      List<Integer> c = scratchOf(n, now);
      if (c == null) return null;
      read.put(n, c);
    }
    List<Integer> found = List.of();
    if (s.rule().kind() == 4 && !s.needs().isEmpty()) {
      found = read.get(s.needs().get(0));
      for (int n : found) {
        List<Integer> c = scratchOf(n, now);
        if (c == null) return null;
        read.put(n, c);
      }
    }
    if (s.isGroup()) return List.of();
    List<Integer> result = result(s, found, read::get);
    if (result.size() > 8) return null;
    return name == s.second() ? List.of(result.size()) : result;
  }

  boolean markedItself(Step s) {
    if (s.isGroup()) return false;
    List<Integer> names = new ArrayList<>(s.needs());
    List<Integer> found = found(s);
    names.addAll(found);
    for (int n : names) if (content(n) == null) return true;
    return look(s, found) != null;
  }

  boolean marked(Step start) {
    Set<Integer> seen = new HashSet<>();
    ArrayDeque<Integer> todo = new ArrayDeque<>(List.of(start.head()));
    while (!todo.isEmpty()) {
      int h = todo.poll();
      if (!seen.add(h)) continue;
      Step s = stepOf(h);
      if (markedItself(s)) return true;
      List<Integer> next = new ArrayList<>(s.needs());
      Rec r = kept.containsKey(h) ? kept.get(h).rec : null;
      if (r != null) next.addAll(r.names().subList(r.needs(), r.names().size()));
      for (int n : next) if (stepOf(n) != null) todo.add(stepOf(n).head());
    }
    return false;
  }

  // ---- the face

  static void name(int n) { if (n < 0 || n > 99) throw new IndexOutOfBoundsException(); }
  static void arg(boolean ok) { if (!ok) throw new IllegalArgumentException(); }
  static void state(boolean ok) { if (!ok) throw new IllegalStateException(); }
  int refuse() { return refused++ < 0 ? 0 : REFUSED; }
  static boolean in(int v, int from, int to) { return v >= from && v <= to; }

  int put(int n, int v) {
    name(n);
    arg(in(v, 0, 99));
    state(!isOwnProduct(n));
    state(!sources.containsKey(n) || sources.get(n).size() < 8);
    if (!sources.containsKey(n)) {
      forget(n);
      sources.put(n, new ArrayList<>());
    }
    sources.get(n).add(v);
    return sources.get(n).size();
  }

  int wipe(int n) {
    name(n);
    state(sources.containsKey(n));
    int before = sources.get(n).size();
    sources.get(n).clear();
    return before;
  }

  int drop(int n) {
    name(n);
    state(sources.containsKey(n));
    sources.remove(n);
    return sources.size();
  }

  int step(int h, int kind, int p, int length) {
    name(h);
    arg(in(kind, 0, 6) && in(p, 0, 99) && in(length, 1, 9));
    state(!sources.containsKey(h));
    state(own.values().stream().noneMatch(o -> o.second == h));
    state(own.size() < 24 || own.containsKey(h));
    Own o = own.get(h);
    if (o == null) {
      forget(h);
      o = new Own();
      own.put(h, o);
    } else if (kind == 6 && o.rule.kind() != 6) {
      forget(h);
      if (o.second >= 0) forget(o.second);
    }
    o.rule = new Rule(kind, p);
    o.length = length;
    return own.size();
  }

  int second(int h, int n) {
    name(h);
    name(n);
    state(own.containsKey(h));
    state(!sources.containsKey(n));
    state(!isOwnProduct(n) || stepOf(n).head() == h);
    Own o = own.get(h);
    int before = o.second;
    int after = n == h ? NONE : n;
    if (before != after) {
      if (before >= 0) forget(before);
      if (after >= 0) forget(after);
      o.second = after;
    }
    return before;
  }

  int need(int h, int n) {
    name(h);
    name(n);
    state(own.containsKey(h));
    Own o = own.get(h);
    state(o.needs.size() < 6 && !o.needs.contains(n));
    for (int p : stepOf(h).products()) if (n == p || reached(n).contains(p)) return refuse();
    o.needs.add(n);
    return o.needs.size();
  }

  int unneed(int h, int place) {
    name(h);
    state(own.containsKey(h));
    arg(in(place, 0, own.get(h).needs.size() - 1));
    return own.get(h).needs.remove(place);
  }

  int strike(int h) {
    name(h);
    state(own.containsKey(h));
    Own o = own.remove(h);
    forget(h);
    if (o.second >= 0) forget(o.second);
    return own.size();
  }

  int pattern(int to, int from, int kind, int p, int length) {
    if (!in(to, 0, 9) || !in(from, 0, 9)) throw new IndexOutOfBoundsException();
    arg(to != from && in(kind, 0, 3) && in(p, 0, 99) && in(length, 1, 9));
    state(patterns.size() < 4 || patterns.containsKey(to));
    int e = from;
    while (e != to && patterns.containsKey(e)) e = patterns.get(e).from();
    if (e == to) return refuse();
    patterns.put(to, new Pattern(from, new Rule(kind, p), length));
    return patterns.size();
  }

  int unpattern(int to) {
    if (!in(to, 0, 9)) throw new IndexOutOfBoundsException();
    if (patterns.remove(to) == null) return refuse();
    return patterns.size();
  }

  int fault(int h, int times) {
    name(h);
    arg(in(times, 0, 9));
    Step s = stepOf(h);
    state(s != null && s.head() == h && !s.isGroup());
    int before = keptOf(h).faults;
    keptOf(h).faults = times;
    return before;
  }

  int mode(boolean k, int r) {
    arg(in(r, 0, 3));
    int before = retries;
    isKept = k;
    retries = r;
    return before;
  }

  int alter(int n, int v) {
    name(n);
    arg(in(v, 0, 99));
    state(stepOf(n) != null);
    if (!there.containsKey(n)) return refuse();
    return there.put(n, new ArrayList<>(List.of(v))).size();
  }

  int remove(int n) {
    name(n);
    state(stepOf(n) != null);
    if (!there.containsKey(n)) return refuse();
    return there.remove(n).size();
  }

  int cache(int b) {
    arg(in(b, 0, 12));
    bound = b;
    while (cache.size() > bound) cache.remove(0);
    return cache.size();
  }

  int poison(int place, int v) {
    arg(in(v, 0, 99));
    if (!in(place, 0, cache.size() - 1)) return refuse();
    int before = cache.get(place).result.size();
    cache.get(place).result = new ArrayList<>(List.of(v));
    return before;
  }

  int build(int goal, int hands, int shake) {
    name(goal);
    arg(in(hands, 1, 6) && in(shake, 0, 9));
    state(stepOf(goal) != null);
    if (hasRing()) return refuse();
    Build b = run(goal, hands, shake);
    builds.add(b);
    return b.now;
  }

  int ofName(int n, int what) {
    name(n);
    arg(in(what, 0, 5));
    Step s = stepOf(n);
    switch (what) {
      case 0: return sort(n);
      case 1: return content(n) == null ? NONE : content(n).size();
      case 2: return s == null ? NONE : s.head();
      case 3: return (int) own.values().stream().filter(o -> o.needs.contains(n)).count();
      case 4: return (int) reached(n).stream().filter(m -> m != n).count();
      default: return s != null && marked(s) ? 1 : 0;
    }
  }

  int number(int n, int place) {
    name(n);
    List<Integer> c = content(n);
    if (c == null || !in(place, 0, c.size() - 1)) throw new IndexOutOfBoundsException();
    return c.get(place);
  }

  long sum(int n) {
    name(n);
    return content(n) == null ? NONE : sumOf(content(n));
  }

  static String spell(List<Integer> c) {
    if (c == null) return "?";
    if (c.isEmpty()) return "-";
    StringBuilder b = new StringBuilder();
    for (int v : c) b.append(b.length() > 0 ? " " : "").append(v);
    return b.toString();
  }

  String text(int n) {
    name(n);
    return spell(content(n));
  }

  Step headed(int h) {
    name(h);
    Step s = stepOf(h);
    state(s != null && s.head() == h);
    return s;
  }

  int ofStep(int h, int what) {
    Step s = headed(h);
    arg(in(what, 0, 9));
    Kept k = kept.getOrDefault(h, new Kept());
    switch (what) {
      case 0: return s.rule().kind();
      case 1: return s.rule().parameter();
      case 2: return s.length();
      case 3: return s.second();
      case 4: return s.needs().size();
      case 5: return k.faults;
      case 6: return k.doneOrSame;
      case 7: return k.fetched;
      case 8: return k.rec == null ? NONE : k.rec.names().size();
      default:
        int from = Math.max(0, k.minutes.size() - 3);
        int count = k.minutes.size() - from;
        return count == 0 ? NONE : k.minutes.subList(from, k.minutes.size()).stream().mapToInt(i -> i).sum() / count;
    }
  }

  int needOf(int h, int place) {
    Step s = headed(h);
    arg(in(place, 0, s.needs().size() - 1));
    return s.needs().get(place);
  }

  Rec recOf(int h) { return kept.containsKey(h) ? kept.get(h).rec : null; }

  int readOf(int h, int place) {
    headed(h);
    arg(place >= 0);
    Rec r = recOf(h);
    return r == null || place >= r.names().size() ? NONE : r.names().get(place);
  }

  long readSum(int h, int place) {
    headed(h);
    arg(place >= 0);
    Rec r = recOf(h);
    return r == null || place >= r.sums().size() ? NONE : r.sums().get(place);
  }

  static int nth(List<Integer> row, int nth) { return nth < row.size() ? row.get(nth) : NONE; }

  int users(int n, int nth) {
    name(n);
    arg(nth >= 0);
    List<Integer> all = new ArrayList<>();
    own.forEach((h, o) -> { if (o.needs.contains(n)) all.add(h); });
    return nth(all, nth);
  }

  int between(int from, int to) {
    name(from);
    name(to);
    if (from > to) return refuse();
    return own.subMap(from, true, to, true).size();
  }

  int near(int n, int way) {
    name(n);
    arg(in(way, 0, 3));
    Integer h = way == 0 ? own.floorKey(n) : way == 1 ? own.lowerKey(n) : way == 2 ? own.ceilingKey(n) : own.higherKey(n);
    return h == null ? NONE : h;
  }

  boolean reaches(int from, int to) {
    name(from);
    name(to);
    return reached(from).contains(to);
  }

  int ways(int from, int to) {
    name(from);
    name(to);
    if (hasRing()) return refuse();
    return from == to ? 0 : Math.min(9999, countWays(from, to, new HashMap<>()));
  }

  String way(int from, int to, int nth) {
    name(from);
    name(to);
    arg(in(nth, 0, 99));
    if (hasRing() || from == to) return "";
    List<String> all = new ArrayList<>();
    listWays(from, to, "" + from, all, new HashMap<>());
    return nth < all.size() ? all.get(nth) : "";
  }

  String ring(int start) {
    name(start);
    if (!reached(start).contains(start)) return "";
    StringBuilder out = new StringBuilder().append(start);
    Set<Integer> gone = new HashSet<>(Set.of(start));
    int at = start;
    do {
      for (int n : needsOfName(at)) {
        if (leadsBack(n, start, gone)) {
          at = n;
          break;
        }
      }
      gone.add(at);
      out.append('>').append(at);
    } while (at != start);
    return out.toString();
  }

  int longest(int n) {
    name(n);
    if (hasRing()) return refuse();
    return longestFrom(n);
  }

  int plain(int goal, int nth) {
    name(goal);
    arg(nth >= 0);
    if (hasRing()) return refuse();
    return nth(plainOrder(goal), nth);
  }

  Build lastBuild() { return builds.isEmpty() ? null : builds.get(builds.size() - 1); }

  int ofBuild(int h, int what) {
    name(h);
    arg(in(what, 0, 6));
    State t = lastBuild() == null ? null : lastBuild().states.get(h);
    if (t == null) return what == 0 || what == 1 || what == 5 ? 0 : NONE;
    switch (what) {
      case 0: return NAMES_OF_STATES.indexOf(t.is);
      case 1: return t.reason;
      case 2: return t.name;
      case 3: return t.began;
      case 4: return t.settled;
      case 5: return t.tries;
      default: return t.hand;
    }
  }

  int last(int what) {
    arg(in(what, 0, 11));
    return history(0, what);
  }

  String trace() {
    return lastBuild() == null || lastBuild().trace.isEmpty() ? "-" : String.join(" ", lastBuild().trace);
  }

  int history(int nth, int what) {
    arg(in(nth, 0, 7) && in(what, 0, 11));
    return nth < builds.size() ? builds.get(builds.size() - 1 - nth).told[what] : NONE;
  }

  int would(int goal, int hands, int what) {
    name(goal);
    arg(in(hands, 1, 6) && in(what, 2, 11));
    state(stepOf(goal) != null);
    if (hasRing()) return refuse();
    return copy().run(goal, hands, 0).told[what];
  }

  int wouldDo(int goal, int nth) {
    name(goal);
    arg(nth >= 0);
    state(stepOf(goal) != null);
    if (hasRing()) return refuse();
    List<Integer> all = new ArrayList<>();
    copy().run(goal, 1, 0).states.forEach((h, t) -> { if (Set.of("done", "same").contains(t.is)) all.add(h); });
    return nth(all, nth);
  }

  String scratch(int n) {
    name(n);
    return spell(scratchOf(n, Set.of()));
  }

  int cached(int what) {
    arg(in(what, 0, 4));
    return new int[] {bound, cache.size(), fetched, missed, wrong}[what];
  }

  String cachedAt(int place) {
    arg(place >= 0);
    return place < cache.size() ? spell(cache.get(place).result) : "?";
  }

  int blank() { return refuse(); }
  int nobody() { return refuse(); }
  int knock() { return ++knocks; }

  int house(int what) {
    arg(in(what, 0, 8));
    int products = 0;
    for (int n = 0; n < 100; n++) if (stepOf(n) != null && there.containsKey(n)) products++;
    return new int[] {sources.size(), own.size(), patterns.size(), products, builds.size(), refused, knocks, retries, isKept ? 1 : 0}[what];
  }

  boolean isSound() {
    for (int h : own.keySet()) if (ring(h).isEmpty() == reaches(h, h)) return false;
    if (hasRing()) return true;
    for (int h : own.keySet()) {
      if (own.get(h).rule.kind() == 6) continue;
      Model one = calm();
      Build b = one.run(h, 1, 0);
      List<Integer> due = scratchOf(h, Set.of());
      if (due == null ? !Set.of("failed", "hangs").contains(b.states.get(h).is) : !due.equals(one.content(h))) return false;
      Build again = one.run(h, 1, 0);
      if (again.told[3] + again.told[4] > 0) return false;
      Model other = calm();
      other.run(h, 3, 7);
      return other.there.equals(one.there);
    }
    return true;
  }

  Model calm() {
    Model m = copy();
    m.kept.values().forEach(k -> k.faults = 0);
    m.bound = 0;
    m.cache.clear();
    m.isKept = true;
    return m;
  }

  long digest() {
    long d = 5901;
    for (int w = 0; w <= 8; w++) d = d * 31 + house(w);
    for (int n = 0; n < 100; n++) {
      if (sort(n) == 0) continue;
      d = d * 31 + n;
      for (int w = 0; w <= 5; w++) d = d * 31 + ofName(n, w);
      d = d * 31 + sum(n);
    }
    for (int h : own.keySet()) {
      d = d * 31 + h;
      for (int w = 0; w <= 9; w++) d = d * 31 + ofStep(h, w);
      for (int n : own.get(h).needs) d = d * 31 + n;
    }
    for (Step s : allSteps()) {
      for (int w = 0; w <= 6; w++) d = d * 31 + ofBuild(s.head(), w);
      for (int i = 0; i < ofStep(s.head(), 8); i++) d = (d * 31 + readOf(s.head(), i)) * 31 + readSum(s.head(), i);
    }
    for (int w = 0; w <= 11; w++) d = d * 31 + last(w);
    for (int w = 0; w <= 4; w++) d = d * 31 + cached(w);
    for (int w = 2; w <= 5; w++) d = d * 31 + history(1, w);
    return d * 31 + (isSound() ? 1 : 0);
  }
}
