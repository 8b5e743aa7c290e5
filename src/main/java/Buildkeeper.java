import java.util.Arrays;

/** A keeper of builds: sources, steps that make products of them, and what was made and why. */
public final class Buildkeeper {
  private static final int NAMES = 100;
  private static final int ENDINGS = 10;
  private static final int MOST_NUMBERS = 8;
  private static final int MOST_NEEDS = 6;
  private static final int MOST_STEPS = 24;
  private static final int MOST_PATTERNS = 4;
  private static final int MOST_ENTRIES = 12;
  private static final int MOST_HANDS = 6;
  private static final int MOST_RETRIES = 3;
  private static final int MOST_WAYS = 9999;
  private static final int MOST_TRIES = NAMES * (MOST_RETRIES + 1);
  /** The needs and what is found by the numbers of one of them. */
  private static final int MOST_READS = MOST_NEEDS + MOST_NUMBERS;
  /** Far more rounds than any build can need. */
  private static final int MANY = 100000;

  private static final int NONE = -1;
  private static final int REFUSED = -9;

  private static final int NOTHING = 0;
  private static final int SOURCE = 1;
  private static final int OWN = 2;
  private static final int BY_PATTERN = 3;

  private static final int SORTED = 1;
  private static final int COUNTED = 2;
  private static final int FIRST_ONES = 3;
  private static final int INCLUDE = 4;
  private static final int GROUP = 6;

  private static final int CLEAN = 1;
  private static final int FETCHED = 2;
  private static final int DONE = 3;
  private static final int SAME = 4;
  private static final int FAILED = 5;
  private static final int HANGS = 6;
  private static final int STOPPED = 7;
  private static final int GATHERED = 8;
  private static final int WAITS = 9;
  private static final int READY = 10;
  private static final int AT_WORK = 11;

  private static final int BY_FAULT = 7;
  private static final int TOO_LONG = 8;
  private static final int NOT_THERE = 9;
  private static final int IN_A_RING = 10;
  private static final int BEHIND_A_BAD_ONE = 11;

  private static final int TOLD = 12;
  private static final int TOLD_TIME = 2;
  private static final int TOLD_DONE = 3;
  private static final int TOLD_SAME = 4;
  private static final int HISTORY = 8;

  private final Plan plan = new Plan();
  private final Roads roads = new Roads(plan);
  private final Works works = new Works(plan, roads);
  private final Survey survey = new Survey(plan, works.contents, works.records);
  /** Copies on which is tried what must not change anything. */
  private final Works trial = new Works(plan, roads);
  private final Works rival = new Works(plan, roads);
  /** The last builds, each with its answers of last(), round and round. */
  private final int[] past = new int[HISTORY * TOLD];
  private int builds = 0;
  private int refusals = 0;
  private int knocks = 0;

  public Buildkeeper() {
  }

  // ---- sources

  public int put(int name, int number) throws IndexOutOfBoundsException, IllegalArgumentException, IllegalStateException {
    checkName(name);
    checkNumber(number);
    if (plan.sort[name] == OWN) {
      throw new IllegalStateException("a product of an own step");
    }
    if (plan.sort[name] == SOURCE && works.contents.size[name] >= MOST_NUMBERS) {
      throw new IllegalStateException("the source is full");
    }
    if (plan.sort[name] != SOURCE) {
      works.forget(name);
      plan.addSource(name);
    }
    works.contents.addTo(name, number);
    return works.contents.size[name];
  }

  public int wipe(int name) throws IndexOutOfBoundsException, IllegalStateException {
    checkName(name);
    checkSource(name);
    int before = works.contents.size[name];
    works.contents.clear(name);
    return before;
  }

  public int drop(int name) throws IndexOutOfBoundsException, IllegalStateException {
    checkName(name);
    checkSource(name);
    works.contents.clear(name);
    plan.dropSource(name);
    return plan.sourceCount;
  }

  // ---- steps and patterns

  public int step(int head, int kind, int parameter, int length) throws IndexOutOfBoundsException, IllegalArgumentException, IllegalStateException {
    checkName(head);
    checkRule(kind, GROUP, parameter, length);
    boolean isThere = plan.isOwn(head);
    if (plan.sort[head] == SOURCE || plan.sort[head] == OWN && !isThere) {
      throw new IllegalStateException("a source or a second product");
    }
    if (!isThere && plan.stepCount >= MOST_STEPS) {
      throw new IllegalStateException("too many steps");
    }
    if (!isThere) {
      works.forget(head);
      plan.addStep(head);
    } else if (kind == GROUP) {
      forgetAll(head);
    }
    plan.setRule(head, kind, parameter, length);
    return plan.stepCount;
  }

  public int second(int head, int name) throws IndexOutOfBoundsException, IllegalStateException {
    checkName(head);
    checkName(name);
    checkOwn(head);
    if (plan.sort[name] == SOURCE || plan.sort[name] == OWN && plan.headOf[name] != head) {
      throw new IllegalStateException("a source, or a product of another own step");
    }
    int before = plan.second[head];
    int after = name == head ? NONE : name;
    if (before == after) {
      return before;
    }
    if (before >= 0) {
      works.forget(before);
    }
    if (after >= 0) {
      works.forget(after);
    }
    plan.setSecond(head, after);
    return before;
  }

  public int need(int head, int name) throws IndexOutOfBoundsException, IllegalStateException {
    checkName(head);
    checkName(name);
    checkOwn(head);
    if (plan.needCount[head] >= MOST_NEEDS || plan.hasNeed(head, name)) {
      throw new IllegalStateException("too many needs, or this one already");
    }
    if (plan.headOf[name] == head) {
      return refuse();
    }
    roads.reachFrom(name);
    int other = plan.second[head];
    if (roads.seen[head] == 1 || other >= 0 && roads.seen[other] == 1) {
      return refuse();
    }
    plan.addNeed(head, name);
    return plan.needCount[head];
  }

  public int unneed(int head, int place) throws IndexOutOfBoundsException, IllegalStateException, IllegalArgumentException {
    checkName(head);
    checkOwn(head);
    checkNeedPlace(head, place);
    return plan.takeNeed(head, place);
  }

  public int strike(int head) throws IndexOutOfBoundsException, IllegalStateException {
    checkName(head);
    checkOwn(head);
    forgetAll(head);
    plan.strikeStep(head);
    return plan.stepCount;
  }

  public int pattern(int to, int from, int kind, int parameter, int length) throws IndexOutOfBoundsException, IllegalArgumentException, IllegalStateException {
    checkEnding(to);
    checkEnding(from);
    if (to == from) {
      throw new IllegalArgumentException("the endings are the same");
    }
    checkRule(kind, FIRST_ONES, parameter, length);
    if (plan.from[to] < 0 && plan.patternCount >= MOST_PATTERNS) {
      throw new IllegalStateException("too many patterns");
    }
    if (plan.comesTo(from, to)) {
      return refuse();
    }
    plan.setPatternRule(to, kind, parameter, length);
    plan.setPattern(to, from);
    return plan.patternCount;
  }

  public int unpattern(int to) throws IndexOutOfBoundsException {
    checkEnding(to);
    if (plan.from[to] < 0) {
      return refuse();
    }
    plan.setPattern(to, NONE);
    return plan.patternCount;
  }

  public int fault(int head, int times) throws IndexOutOfBoundsException, IllegalArgumentException, IllegalStateException {
    checkName(head);
    if (times < 0 || times > 9) {
      throw new IllegalArgumentException("times is not 0 to 9");
    }
    checkStep(head);
    if (plan.kind[head] == GROUP) {
      throw new IllegalStateException("a group");
    }
    int before = works.records.faults[head];
    works.records.faults[head] = times;
    return before;
  }

  public int mode(boolean isKept, int retries) throws IllegalArgumentException {
    if (retries < 0 || retries > MOST_RETRIES) {
      throw new IllegalArgumentException("retries is not 0 to 3");
    }
    int before = works.retries;
    works.isKept = isKept;
    works.retries = retries;
    return before;
  }

  // ---- what others do to products and cache

  public int alter(int name, int number) throws IndexOutOfBoundsException, IllegalArgumentException, IllegalStateException {
    checkName(name);
    checkNumber(number);
    checkProduct(name);
    if (works.contents.there[name] == 0) {
      return refuse();
    }
    int before = works.contents.size[name];
    works.contents.setOne(name, number);
    return before;
  }

  public int remove(int name) throws IndexOutOfBoundsException, IllegalStateException {
    checkName(name);
    checkProduct(name);
    if (works.contents.there[name] == 0) {
      return refuse();
    }
    int before = works.contents.size[name];
    works.contents.clear(name);
    return before;
  }

  public int cache(int bound) throws IllegalArgumentException {
    if (bound < 0 || bound > MOST_ENTRIES) {
      throw new IllegalArgumentException("bound is not 0 to 12");
    }
    works.store.setBound(bound);
    return works.store.count;
  }

  public int poison(int place, int number) throws IllegalArgumentException {
    checkNumber(number);
    if (!works.store.hasPlace(place)) {
      return refuse();
    }
    Entry entry = works.store.entries[place];
    int before = entry.size;
    entry.size = 1;
    entry.numbers[0] = number;
    return before;
  }

  // ---- a build

  public int build(int goal, int hands, int shake) throws IndexOutOfBoundsException, IllegalArgumentException, IllegalStateException {
    checkName(goal);
    checkHands(hands);
    if (shake < 0 || shake > 9) {
      throw new IllegalArgumentException("shake is not 0 to 9");
    }
    checkGoal(goal);
    if (!roads.putInOrder()) {
      return refuse();
    }
    works.run(goal, hands, shake);
    System.arraycopy(works.report.told, 0, past, (builds % HISTORY) * TOLD, TOLD);
    builds++;
    return works.report.told[TOLD_TIME];
  }

  // ---- names and steps

  public int ofName(int name, int what) throws IndexOutOfBoundsException, IllegalArgumentException {
    checkName(name);
    checkWhat(what, 0, 5);
    if (what == 5) {
      survey.markAll();
    }
    return tellName(name, what);
  }

  public int number(int name, int place) throws IndexOutOfBoundsException {
    checkName(name);
    if (place < 0 || !works.contents.has(name) || place >= works.contents.size[name]) {
      throw new IndexOutOfBoundsException("no such number");
    }
    return works.contents.numbers[name * MOST_NUMBERS + place];
  }

  public long sum(int name) throws IndexOutOfBoundsException {
    checkName(name);
    return tellSum(name);
  }

  public String text(int name) throws IndexOutOfBoundsException {
    checkName(name);
    if (!works.contents.has(name)) {
      return "?";
    }
    return spell(works.contents.numbers, name * MOST_NUMBERS, works.contents.size[name]);
  }

  public int ofStep(int head, int what) throws IndexOutOfBoundsException, IllegalStateException, IllegalArgumentException {
    checkName(head);
    checkStep(head);
    checkWhat(what, 0, 9);
    return tellStep(head, what);
  }

  public int needOf(int head, int place) throws IndexOutOfBoundsException, IllegalStateException, IllegalArgumentException {
    checkName(head);
    checkStep(head);
    checkNeedPlace(head, place);
    return plan.needs[head * MOST_NEEDS + place];
  }

  public int readOf(int head, int place) throws IndexOutOfBoundsException, IllegalStateException, IllegalArgumentException {
    checkName(head);
    checkStep(head);
    checkNth(place);
    return place < works.records.readCount[head] ? works.records.names[head * MOST_READS + place] : NONE;
  }

  public long readSum(int head, int place) throws IndexOutOfBoundsException, IllegalStateException, IllegalArgumentException {
    checkName(head);
    checkStep(head);
    checkNth(place);
    return place < works.records.readCount[head] ? works.records.sums[head * MOST_READS + place] : NONE;
  }

  public int users(int name, int nth) throws IndexOutOfBoundsException, IllegalArgumentException {
    checkName(name);
    checkNth(nth);
    int left = nth;
    for (int head = 0; head < NAMES; head++) {
      if (plan.isOwn(head) && plan.hasNeed(head, name)) {
        if (left == 0) {
          return head;
        }
        left--;
      }
    }
    return NONE;
  }

  public int between(int from, int to) throws IndexOutOfBoundsException {
    checkName(from);
    checkName(to);
    if (from > to) {
      return refuse();
    }
    int found = 0;
    for (int head = from; head <= to; head++) {
      found += plan.isOwn(head) ? 1 : 0;
    }
    return found;
  }

  public int near(int name, int way) throws IndexOutOfBoundsException, IllegalArgumentException {
    checkName(name);
    checkWhat(way, 0, 3);
    int by = way < 2 ? -1 : 1;
    int first = way == 0 || way == 2 ? name : name + by;
    for (int head = first; head >= 0 && head < NAMES; head += by) {
      if (plan.isOwn(head)) {
        return head;
      }
    }
    return NONE;
  }

  // ---- ways

  public boolean reaches(int from, int to) throws IndexOutOfBoundsException {
    checkName(from);
    checkName(to);
    roads.reachFrom(from);
    return roads.seen[to] == 1;
  }

  public int ways(int from, int to) throws IndexOutOfBoundsException {
    checkName(from);
    checkName(to);
    if (!roads.putInOrder()) {
      return refuse();
    }
    roads.countTo(to);
    return from == to ? 0 : roads.counts[from];
  }

  public String way(int from, int to, int nth) throws IndexOutOfBoundsException, IllegalArgumentException {
    checkName(from);
    checkName(to);
    if (nth < 0 || nth > 99) {
      throw new IllegalArgumentException("nth is not 0 to 99");
    }
    if (from == to || !roads.putInOrder()) {
      return "";
    }
    roads.findNth(from, to, nth);
    return spellPath();
  }

  public String ring(int name) throws IndexOutOfBoundsException {
    checkName(name);
    roads.findRing(name);
    return spellPath();
  }

  public int longest(int name) throws IndexOutOfBoundsException {
    checkName(name);
    if (!roads.putInOrder()) {
      return refuse();
    }
    return roads.lengthFrom(name);
  }

  public int plain(int goal, int nth) throws IndexOutOfBoundsException, IllegalArgumentException {
    checkName(goal);
    checkNth(nth);
    if (!roads.putInOrder()) {
      return refuse();
    }
    return roads.plainAt(goal, nth);
  }

  // ---- what was built, and would be

  public int ofBuild(int head, int what) throws IndexOutOfBoundsException, IllegalArgumentException {
    checkName(head);
    checkWhat(what, 0, 6);
    return works.report.tell(head, what);
  }

  public int last(int what) throws IllegalArgumentException {
    checkWhat(what, 0, TOLD - 1);
    return tellPast(0, what);
  }

  public String trace() {
    Report report = works.report;
    if (report.tryCount == 0) {
      return "-";
    }
    StringBuilder out = new StringBuilder();
    for (int i = 0; i < report.tryCount; i++) {
      if (i > 0) {
        out.append(' ');
      }
      out.append(report.tryHeads[i]).append('@').append(report.tryTimes[i]);
    }
    return out.toString();
  }

  public int history(int nth, int what) throws IllegalArgumentException {
    checkWhat(nth, 0, HISTORY - 1);
    checkWhat(what, 0, TOLD - 1);
    return tellPast(nth, what);
  }

  public int would(int goal, int hands, int what) throws IndexOutOfBoundsException, IllegalArgumentException, IllegalStateException {
    checkName(goal);
    checkHands(hands);
    checkWhat(what, TOLD_TIME, TOLD - 1);
    checkGoal(goal);
    if (!roads.putInOrder()) {
      return refuse();
    }
    trial.copyFrom(works);
    trial.run(goal, hands, 0);
    return trial.report.told[what];
  }

  public int wouldDo(int goal, int nth) throws IndexOutOfBoundsException, IllegalArgumentException, IllegalStateException {
    checkName(goal);
    checkNth(nth);
    checkGoal(goal);
    if (!roads.putInOrder()) {
      return refuse();
    }
    trial.copyFrom(works);
    trial.run(goal, 1, 0);
    int left = nth;
    for (int head = 0; head < NAMES; head++) {
      int state = trial.report.state[head];
      if (state == DONE || state == SAME) {
        if (left == 0) {
          return head;
        }
        left--;
      }
    }
    return NONE;
  }

  public String scratch(int name) throws IndexOutOfBoundsException {
    checkName(name);
    survey.makeAll();
    if (!survey.hasScratch(name)) {
      return "?";
    }
    return spell(survey.made.numbers, name * MOST_NUMBERS, survey.made.size[name]);
  }

  // ---- the cache, and all

  public int cached(int what) throws IllegalArgumentException {
    checkWhat(what, 0, 4);
    return tellCache(what);
  }

  public String cachedAt(int place) throws IllegalArgumentException {
    checkNth(place);
    if (!works.store.hasPlace(place)) {
      return "?";
    }
    Entry entry = works.store.entries[place];
    return spell(entry.numbers, 0, entry.size);
  }

  public int blank() {
    return refuse();
  }

  public int nobody() {
    return refuse();
  }

  public int knock() {
    knocks++;
    return knocks;
  }

  public int house(int what) throws IllegalArgumentException {
    checkWhat(what, 0, 8);
    return tellHouse(what);
  }

  public boolean isSound() {
    if (!areRingsAlike()) {
      return false;
    }
    int head = firstWorking();
    if (head < 0 || !roads.putInOrder()) {
      return true;
    }
    survey.makeAll();
    trial.copyCalm(works);
    trial.run(head, 1, 0);
    if (!isAsFromNothing(head)) {
      return false;
    }
    trial.run(head, 1, 0);
    if (trial.report.told[TOLD_DONE] > 0 || trial.report.told[TOLD_SAME] > 0) {
      return false;
    }
    rival.copyCalm(works);
    rival.run(head, 3, 7);
    return areTriesAlike();
  }

  public long digest() {
    long d = 5901;
    for (int what = 0; what <= 8; what++) {
      d = d * 31 + tellHouse(what);
    }
    survey.markAll();
    for (int name = 0; name < NAMES; name++) {
      if (plan.sort[name] != NOTHING) {
        d = d * 31 + name;
        for (int what = 0; what <= 5; what++) {
          d = d * 31 + tellName(name, what);
        }
        d = d * 31 + tellSum(name);
      }
    }
    d = digestSteps(d);
    d = digestBuilds(d);
    for (int what = 0; what < TOLD; what++) {
      d = d * 31 + tellPast(0, what);
    }
    for (int what = 0; what <= 4; what++) {
      d = d * 31 + tellCache(what);
    }
    for (int what = 2; what <= 5; what++) {
      d = d * 31 + tellPast(1, what);
    }
    return d * 31 + (isSound() ? 1 : 0);
  }

  private long digestSteps(long before) {
    long d = before;
    for (int head = 0; head < NAMES; head++) {
      if (plan.isOwn(head)) {
        d = d * 31 + head;
        for (int what = 0; what <= 9; what++) {
          d = d * 31 + tellStep(head, what);
        }
        for (int place = 0; place < plan.needCount[head]; place++) {
          d = d * 31 + plan.needs[head * MOST_NEEDS + place];
        }
      }
    }
    return d;
  }

  private long digestBuilds(long before) {
    long d = before;
    Records records = works.records;
    for (int head = 0; head < NAMES; head++) {
      if (plan.isHead(head)) {
        for (int what = 0; what <= 6; what++) {
          d = d * 31 + works.report.tell(head, what);
        }
        for (int place = 0; place < records.readCount[head]; place++) {
          d = d * 31 + records.names[head * MOST_READS + place];
          d = d * 31 + records.sums[head * MOST_READS + place];
        }
      }
    }
    return d;
  }

  // ---- what must hold ahead of a call

  private static void checkName(int name) {
    if (name < 0 || name >= NAMES) {
      throw new IndexOutOfBoundsException("not a name");
    }
  }

  private static void checkEnding(int ending) {
    if (ending < 0 || ending >= ENDINGS) {
      throw new IndexOutOfBoundsException("not an ending");
    }
  }

  private static void checkNumber(int number) {
    if (number < 0 || number > 99) {
      throw new IllegalArgumentException("not a number of 0 to 99");
    }
  }

  private static void checkRule(int kind, int lastKind, int parameter, int length) {
    if (kind < 0 || kind > lastKind) {
      throw new IllegalArgumentException("no such kind");
    }
    if (parameter < 0 || parameter > 99) {
      throw new IllegalArgumentException("parameter is not 0 to 99");
    }
    if (length < 1 || length > 9) {
      throw new IllegalArgumentException("length is not 1 to 9");
    }
  }

  private static void checkHands(int hands) {
    if (hands < 1 || hands > MOST_HANDS) {
      throw new IllegalArgumentException("hands is not 1 to 6");
    }
  }

  private static void checkWhat(int what, int first, int last) {
    if (what < first || what > last) {
      throw new IllegalArgumentException("there is no such question");
    }
  }

  private static void checkNth(int nth) {
    if (nth < 0) {
      throw new IllegalArgumentException("below 0");
    }
  }

  private void checkSource(int name) {
    if (plan.sort[name] != SOURCE) {
      throw new IllegalStateException("no source");
    }
  }

  private void checkProduct(int name) {
    if (plan.headOf[name] < 0) {
      throw new IllegalStateException("no product");
    }
  }

  private void checkGoal(int goal) {
    if (plan.headOf[goal] < 0) {
      throw new IllegalStateException("there is no step of the goal");
    }
  }

  private void checkOwn(int head) {
    if (!plan.isOwn(head)) {
      throw new IllegalStateException("no own step with that head");
    }
  }

  private void checkStep(int head) {
    if (!plan.isHead(head)) {
      throw new IllegalStateException("no step with that head");
    }
  }

  private void checkNeedPlace(int head, int place) {
    if (place < 0 || place >= plan.needCount[head]) {
      throw new IllegalArgumentException("no need at that place");
    }
  }

  // ---- help for the answers

  private int refuse() {
    refusals++;
    return REFUSED;
  }

  /** Forgets what is kept of an own step, with both of its products. */
  private void forgetAll(int head) {
    works.forget(head);
    if (plan.second[head] >= 0) {
      works.forget(plan.second[head]);
    }
  }

  /** For 5 all must have been marked just before. */
  private int tellName(int name, int what) {
    int head = plan.headOf[name];
    switch (what) {
      case 0:
        return plan.sort[name];
      case 1:
        return works.contents.has(name) ? works.contents.size[name] : NONE;
      case 2:
        return head;
      case 3:
        return plan.countUsers(name);
      case 4:
        return roads.reachFrom(name) - roads.seen[name];
      default:
        return head >= 0 ? survey.marked[head] : 0;
    }
  }

  private long tellSum(int name) {
    return works.contents.has(name) ? works.contents.sums[name] : NONE;
  }

  private int tellStep(int head, int what) {
    Records records = works.records;
    switch (what) {
      case 0:
        return plan.kind[head];
      case 1:
        return plan.parameter[head];
      case 2:
        return plan.length[head];
      case 3:
        return plan.second[head];
      case 4:
        return plan.needCount[head];
      case 5:
        return records.faults[head];
      case 6:
        return records.doneCount[head];
      case 7:
        return records.fetchedCount[head];
      case 8:
        return records.readCount[head];
      default:
        return records.foretold(head);
    }
  }

  private int tellPast(int nth, int what) {
    if (nth >= builds) {
      return NONE;
    }
    return past[(builds - 1 - nth) % HISTORY * TOLD + what];
  }

  private int tellCache(int what) {
    Cache store = works.store;
    switch (what) {
      case 0:
        return store.bound;
      case 1:
        return store.count;
      case 2:
        return store.fetched;
      case 3:
        return store.missed;
      default:
        return store.wrong;
    }
  }

  private int tellHouse(int what) {
    switch (what) {
      case 0:
        return plan.sourceCount;
      case 1:
        return plan.stepCount;
      case 2:
        return plan.patternCount;
      case 3:
        return countProducts();
      case 4:
        return builds;
      case 5:
        return refusals;
      case 6:
        return knocks;
      case 7:
        return works.retries;
      default:
        return works.isKept ? 1 : 0;
    }
  }

  private int countProducts() {
    int found = 0;
    for (int name = 0; name < NAMES; name++) {
      if (plan.headOf[name] >= 0) {
        found += works.contents.there[name];
      }
    }
    return found;
  }

  private static String spell(int[] numbers, int start, int count) {
    if (count == 0) {
      return "-";
    }
    return spellRow(numbers, start, count, ' ');
  }

  private String spellPath() {
    return spellRow(roads.path, 0, roads.pathCount, '>');
  }

  private static String spellRow(int[] numbers, int start, int count, char between) {
    StringBuilder out = new StringBuilder();
    for (int i = 0; i < count; i++) {
      if (i > 0) {
        out.append(between);
      }
      out.append(numbers[start + i]);
    }
    return out.toString();
  }

  // ---- soundness

  /** Whether ring() and reaches() tell the same of the heads of all own steps. */
  private boolean areRingsAlike() {
    for (int head = 0; head < NAMES; head++) {
      if (plan.isOwn(head)) {
        roads.findRing(head);
        boolean isRing = roads.pathCount > 0;
        roads.reachFrom(head);
        if (isRing != (roads.seen[head] == 1)) {
          return false;
        }
      }
    }
    return true;
  }

  /** The smallest head of an own step that is no group, or NONE. */
  private int firstWorking() {
    for (int head = 0; head < NAMES; head++) {
      if (plan.isOwn(head) && plan.kind[head] != GROUP) {
        return head;
      }
    }
    return NONE;
  }

  /** Whether the trial has built what the survey made just before. */
  private boolean isAsFromNothing(int head) {
    if (!survey.hasScratch(head)) {
      int state = trial.report.state[head];
      return state == FAILED || state == HANGS;
    }
    return trial.contents.has(head) && trial.contents.sums[head] == survey.made.sums[head];
  }

  private boolean areTriesAlike() {
    for (int name = 0; name < NAMES; name++) {
      if (plan.headOf[name] >= 0
          && (trial.contents.there[name] != rival.contents.there[name]
              || trial.contents.sums[name] != rival.contents.sums[name])) {
        return false;
      }
    }
    return true;
  }

  /** What is told: sources, own steps and patterns; and what each name is by that. */
  private static final class Plan {
    final int[] sort = new int[NAMES];
    final int[] headOf = new int[NAMES];
    /** By heads, of steps by patterns, too. */
    final int[] kind = new int[NAMES];
    final int[] parameter = new int[NAMES];
    final int[] length = new int[NAMES];
    final int[] second = new int[NAMES];
    final int[] needCount = new int[NAMES];
    final int[] needs = new int[NAMES * MOST_NEEDS];
    /** By the endings to. */
    final int[] from = new int[ENDINGS];
    final int[] patternKind = new int[ENDINGS];
    final int[] patternParameter = new int[ENDINGS];
    final int[] patternLength = new int[ENDINGS];
    int sourceCount = 0;
    int stepCount = 0;
    int patternCount = 0;

    Plan() {
      Arrays.fill(headOf, NONE);
      Arrays.fill(second, NONE);
      Arrays.fill(from, NONE);
    }

    boolean isHead(int name) {
      return headOf[name] == name;
    }

    boolean isOwn(int name) {
      return sort[name] == OWN && headOf[name] == name;
    }

    boolean hasNeed(int head, int name) {
      for (int place = 0; place < needCount[head]; place++) {
        if (needs[head * MOST_NEEDS + place] == name) {
          return true;
        }
      }
      return false;
    }

    int countUsers(int name) {
      int found = 0;
      for (int head = 0; head < NAMES; head++) {
        if (isOwn(head) && hasNeed(head, name)) {
          found++;
        }
      }
      return found;
    }

    void addSource(int name) {
      become(name, SOURCE, NONE);
      sourceCount++;
      arrange();
    }

    void dropSource(int name) {
      become(name, NOTHING, NONE);
      sourceCount--;
      arrange();
    }

    void addStep(int head) {
      become(head, OWN, head);
      stepCount++;
      arrange();
    }

    void strikeStep(int head) {
      if (second[head] >= 0) {
        become(second[head], NOTHING, NONE);
      }
      become(head, NOTHING, NONE);
      stepCount--;
      arrange();
    }

    void setRule(int head, int newKind, int newParameter, int newLength) {
      kind[head] = newKind;
      parameter[head] = newParameter;
      length[head] = newLength;
    }

    void setSecond(int head, int name) {
      if (second[head] >= 0) {
        become(second[head], NOTHING, NONE);
      }
      if (name >= 0) {
        become(name, OWN, head);
      }
      second[head] = name;
      arrange();
    }

    void addNeed(int head, int name) {
      needs[head * MOST_NEEDS + needCount[head]] = name;
      needCount[head]++;
    }

    int takeNeed(int head, int place) {
      int at = head * MOST_NEEDS + place;
      int name = needs[at];
      needCount[head]--;
      System.arraycopy(needs, at + 1, needs, at, needCount[head] - place);
      return name;
    }

    /** Whether patterns lead from the one ending on to the other one. */
    boolean comesTo(int first, int goal) {
      int ending = first;
      for (int turn = 0; turn < ENDINGS && ending >= 0; turn++) {
        if (ending == goal) {
          return true;
        }
        ending = from[ending];
      }
      return false;
    }

    void setPatternRule(int to, int newKind, int newParameter, int newLength) {
      patternKind[to] = newKind;
      patternParameter[to] = newParameter;
      patternLength[to] = newLength;
    }

    void setPattern(int to, int newFrom) {
      patternCount += (newFrom >= 0 ? 1 : 0) - (from[to] >= 0 ? 1 : 0);
      from[to] = newFrom;
      arrange();
    }

    /** A name is another thing from now on, with no needs of its own at first. */
    private void become(int name, int newSort, int head) {
      sort[name] = newSort;
      headOf[name] = head;
      second[name] = NONE;
      needCount[name] = 0;
    }

    /** Finds the products of patterns anew; one may stand on another one, so it goes round as often as there can be patterns. */
    private void arrange() {
      for (int name = 0; name < NAMES; name++) {
        if (sort[name] == BY_PATTERN) {
          become(name, NOTHING, NONE);
        }
      }
      for (int turn = 0; turn < patternCount; turn++) {
        for (int name = 0; name < NAMES; name++) {
          makeByPattern(name);
        }
      }
    }

    private void makeByPattern(int name) {
      int ending = name % ENDINGS;
      if (sort[name] != NOTHING || from[ending] < 0) {
        return;
      }
      int origin = name - ending + from[ending];
      if (sort[origin] != NOTHING) {
        become(name, BY_PATTERN, name);
        setRule(name, patternKind[ending], patternParameter[ending], patternLength[ending]);
        addNeed(name, origin);
      }
    }
  }

  /** Answers about ways of needs. */
  private static final class Roads {
    final Plan plan;
    /** The heads of all steps, needs first, as putInOrder() found them. */
    final int[] order = new int[NAMES];
    final int[] placed = new int[NAMES];
    final int[] seen = new int[NAMES];
    final int[] list = new int[NAMES];
    final int[] counts = new int[NAMES];
    final int[] path = new int[NAMES + 1];
    final int[] passed = new int[NAMES];
    int orderCount = 0;
    int pathCount = 0;

    Roads(Plan plan) {
      this.plan = plan;
    }

    /** Puts all steps in an order, needs first; tells whether that can be (there is no ring). */
    boolean putInOrder() {
      Arrays.fill(placed, 0);
      orderCount = 0;
      int steps = 0;
      for (int head = 0; head < NAMES; head++) {
        steps += plan.isHead(head) ? 1 : 0;
      }
      for (int turn = 0; turn < NAMES && orderCount < steps; turn++) {
        int before = orderCount;
        for (int head = 0; head < NAMES; head++) {
          if (plan.isHead(head) && canBePlaced(head)) {
            placed[head] = 1;
            order[orderCount] = head;
            orderCount++;
          }
        }
        if (orderCount == before) {
          return false;
        }
      }
      return true;
    }

    private boolean canBePlaced(int head) {
      if (placed[head] == 1) {
        return false;
      }
      for (int place = 0; place < plan.needCount[head]; place++) {
        int other = plan.headOf[plan.needs[head * MOST_NEEDS + place]];
        if (other >= 0 && placed[other] == 0) {
          return false;
        }
      }
      return true;
    }

    /** Marks as seen all names to which a way of one need or more leads; tells how many. */
    int reachFrom(int name) {
      Arrays.fill(seen, 0);
      int end = seeNeeds(name, 0);
      for (int at = 0; at < end && at < NAMES; at++) {
        end = seeNeeds(list[at], end);
      }
      return end;
    }

    private int seeNeeds(int name, int before) {
      int end = before;
      int head = plan.headOf[name];
      if (head < 0) {
        return end;
      }
      for (int place = 0; place < plan.needCount[head]; place++) {
        int other = plan.needs[head * MOST_NEEDS + place];
        if (seen[other] == 0 && end < NAMES) {
          seen[other] = 1;
          list[end] = other;
          end++;
        }
      }
      return end;
    }

    /** Counts for each name the ways from it to that one; all must be in order. */
    void countTo(int to) {
      Arrays.fill(counts, 0);
      counts[to] = 1;
      for (int i = 0; i < orderCount; i++) {
        int head = order[i];
        int found = 0;
        for (int place = 0; place < plan.needCount[head]; place++) {
          found = Math.min(MOST_WAYS, found + counts[plan.needs[head * MOST_NEEDS + place]]);
        }
        int other = plan.second[head];
        counts[head] = head == to ? 1 : found;
        if (other >= 0) {
          counts[other] = other == to ? 1 : found;
        }
      }
    }

    /** Finds the nth way as the path; all must be in order. */
    void findNth(int from, int to, int nth) {
      countTo(to);
      pathCount = 0;
      if (nth >= counts[from]) {
        return;
      }
      int left = nth;
      int name = from;
      addToPath(name);
      for (int turn = 0; turn < NAMES && name != to; turn++) {
        int head = plan.headOf[name];
        if (head < 0) {
          return;
        }
        for (int place = 0; place < plan.needCount[head]; place++) {
          name = plan.needs[head * MOST_NEEDS + place];
          if (left < counts[name]) {
            break;
          }
          left -= counts[name];
        }
        addToPath(name);
      }
    }

    private void addToPath(int name) {
      if (pathCount < path.length) {
        path[pathCount] = name;
        pathCount++;
      }
    }

    /** Finds a ring of the name as the path, which is empty without one. */
    void findRing(int start) {
      pathCount = 0;
      reachFrom(start);
      if (seen[start] == 0) {
        return;
      }
      Arrays.fill(passed, 0);
      int name = start;
      for (int turn = 0; turn < NAMES; turn++) {
        addToPath(name);
        passed[name] = 1;
        name = nextInRing(name, start);
        if (name == start || name < 0) {
          break;
        }
      }
      addToPath(start);
    }

    private int nextInRing(int name, int start) {
      int head = plan.headOf[name];
      if (head < 0) {
        return NONE;
      }
      for (int place = 0; place < plan.needCount[head]; place++) {
        int other = plan.needs[head * MOST_NEEDS + place];
        if (other == start || passed[other] == 0 && leadsBack(other, start)) {
          return other;
        }
      }
      return NONE;
    }

    /** Whether a way leads from the one to the other one without a name that was passed. */
    private boolean leadsBack(int name, int start) {
      System.arraycopy(passed, 0, seen, 0, NAMES);
      seen[start] = 0;
      seen[name] = 1;
      list[0] = name;
      int end = 1;
      for (int at = 0; at < end && at < NAMES; at++) {
        end = seeNeeds(list[at], end);
      }
      return seen[start] == 1;
    }

    /** The greatest sum of lengths on a way from the name on; all must be in order. */
    int lengthFrom(int name) {
      for (int i = 0; i < orderCount; i++) {
        int head = order[i];
        int most = 0;
        for (int place = 0; place < plan.needCount[head]; place++) {
          int other = plan.headOf[plan.needs[head * MOST_NEEDS + place]];
          most = other >= 0 ? Math.max(most, counts[other]) : most;
        }
        counts[head] = most + lengthOf(head);
      }
      int head = plan.headOf[name];
      return head >= 0 ? counts[head] : 0;
    }

    private int lengthOf(int head) {
      return plan.kind[head] == GROUP ? 0 : plan.length[head];
    }

    /** The nth head of the plain order, or NONE. */
    int plainAt(int goal, int nth) {
      reachFrom(goal);
      seen[goal] = 1;
      Arrays.fill(counts, 0);
      for (int name = 0; name < NAMES; name++) {
        if (seen[name] == 1 && plan.headOf[name] >= 0) {
          counts[plan.headOf[name]] = 1;
        }
      }
      Arrays.fill(placed, 0);
      int head = NONE;
      for (int turn = 0; turn <= nth && turn <= NAMES; turn++) {
        head = nextPlain();
        if (head < 0) {
          return NONE;
        }
        placed[head] = 1;
      }
      return head;
    }

    private int nextPlain() {
      for (int head = 0; head < NAMES; head++) {
        if (counts[head] == 1 && canBePlaced(head)) {
          return head;
        }
      }
      return NONE;
    }

    /** The weight of a step among those that are wanted (have a state); all must be in order. */
    int weigh(int wanted, int[] state) {
      Arrays.fill(counts, 0);
      for (int i = orderCount - 1; i >= 0; i--) {
        int head = order[i];
        if (state[head] == 0) {
          continue;
        }
        counts[head] += lengthOf(head);
        for (int place = 0; place < plan.needCount[head]; place++) {
          int other = plan.headOf[plan.needs[head * MOST_NEEDS + place]];
          if (other >= 0) {
            counts[other] = Math.max(counts[other], counts[head]);
          }
        }
      }
      return counts[wanted];
    }
  }

  /** The contents of names. */
  private static final class Contents {
    final Plan plan;
    /** Of products alone: a source always has a content. */
    final int[] there = new int[NAMES];
    /** Both 0 where nothing is there: so a group has an empty content. */
    final int[] size = new int[NAMES];
    final long[] sums = new long[NAMES];
    final int[] numbers = new int[NAMES * MOST_NUMBERS];

    Contents(Plan plan) {
      this.plan = plan;
    }

    boolean has(int name) {
      int head = plan.headOf[name];
      if (head < 0) {
        return plan.sort[name] == SOURCE;
      }
      return plan.kind[head] == GROUP || there[name] == 1;
    }

    void clear(int name) {
      there[name] = 0;
      size[name] = 0;
      sums[name] = 0;
    }

    void addTo(int name, int number) {
      if (size[name] < MOST_NUMBERS) {
        numbers[name * MOST_NUMBERS + size[name]] = number;
        size[name]++;
        sums[name] = sums[name] * 101 + number + 1;
      }
    }

    void setOne(int name, int number) {
      there[name] = 1;
      size[name] = 1;
      numbers[name * MOST_NUMBERS] = number;
      sums[name] = number + 1;
    }

    void setRow(int name, int[] row, int count) {
      there[name] = 1;
      size[name] = Math.min(count, MOST_NUMBERS);
      System.arraycopy(row, 0, numbers, name * MOST_NUMBERS, size[name]);
      sums[name] = sumOfRow(row, size[name]);
    }

    boolean isLike(int name, long wanted) {
      return there[name] == 1 && sums[name] == wanted;
    }

    void copyFrom(Contents other) {
      System.arraycopy(other.there, 0, there, 0, NAMES);
      System.arraycopy(other.size, 0, size, 0, NAMES);
      System.arraycopy(other.sums, 0, sums, 0, NAMES);
      System.arraycopy(other.numbers, 0, numbers, 0, NAMES * MOST_NUMBERS);
    }

    static long sumOfRow(int[] row, int count) {
      long total = 0;
      for (int i = 0; i < count && i < row.length; i++) {
        total = total * 101 + row[i] + 1;
      }
      return total;
    }
  }

  /** What is kept of heads beside their products: records, faults and counts. */
  private static final class Records {
    /** NONE without a record. */
    final int[] readCount = new int[NAMES];
    final int[] needCount = new int[NAMES];
    final int[] kind = new int[NAMES];
    final int[] parameter = new int[NAMES];
    final int[] names = new int[NAMES * MOST_READS];
    final long[] sums = new long[NAMES * MOST_READS];
    final long[] headSum = new long[NAMES];
    final int[] second = new int[NAMES];
    final long[] secondSum = new long[NAMES];
    final int[] faults = new int[NAMES];
    final int[] doneCount = new int[NAMES];
    final int[] fetchedCount = new int[NAMES];
    /** The minutes of the last three builds in which it was done, round and round. */
    final int[] minutes = new int[NAMES * 3];

    Records() {
      Arrays.fill(readCount, NONE);
    }

    void forget(int head) {
      readCount[head] = NONE;
      needCount[head] = 0;
      faults[head] = 0;
      doneCount[head] = 0;
      fetchedCount[head] = 0;
    }

    void keepReads(int head, Reading reading) {
      kind[head] = reading.plan.kind[head];
      parameter[head] = reading.plan.parameter[head];
      readCount[head] = reading.count;
      needCount[head] = reading.needCount;
      System.arraycopy(reading.names, 0, names, head * MOST_READS, reading.count);
      System.arraycopy(reading.sums, 0, sums, head * MOST_READS, reading.count);
    }

    void keepProducts(int head, int other, Contents contents) {
      headSum[head] = contents.sums[head];
      second[head] = other;
      secondSum[head] = other >= 0 ? contents.sums[other] : 0;
    }

    void addMinutes(int head, int taken) {
      minutes[head * 3 + doneCount[head] % 3] = taken;
      doneCount[head]++;
    }

    int foretold(int head) {
      int builds = Math.min(3, doneCount[head]);
      if (builds <= 0) {
        return NONE;
      }
      int total = 0;
      for (int i = 0; i < builds; i++) {
        total += minutes[head * 3 + i];
      }
      return total / builds;
    }

    void copyFrom(Records other) {
      System.arraycopy(other.readCount, 0, readCount, 0, NAMES);
      System.arraycopy(other.needCount, 0, needCount, 0, NAMES);
      System.arraycopy(other.kind, 0, kind, 0, NAMES);
      System.arraycopy(other.parameter, 0, parameter, 0, NAMES);
      System.arraycopy(other.names, 0, names, 0, NAMES * MOST_READS);
      System.arraycopy(other.sums, 0, sums, 0, NAMES * MOST_READS);
      System.arraycopy(other.headSum, 0, headSum, 0, NAMES);
      System.arraycopy(other.second, 0, second, 0, NAMES);
      System.arraycopy(other.secondSum, 0, secondSum, 0, NAMES);
      System.arraycopy(other.faults, 0, faults, 0, NAMES);
      System.arraycopy(other.doneCount, 0, doneCount, 0, NAMES);
      System.arraycopy(other.fetchedCount, 0, fetchedCount, 0, NAMES);
      System.arraycopy(other.minutes, 0, minutes, 0, NAMES * 3);
    }
  }

  /** What one step reads now, and what looking at it finds. */
  private static final class Reading {
    final Plan plan;
    final Contents contents;
    final Records records;
    final int[] names = new int[MOST_READS];
    final long[] sums = new long[MOST_READS];
    int count = 0;
    int needCount = 0;
    int reason = 0;
    int reasonName = NONE;

    Reading(Plan plan, Contents contents, Records records) {
      this.plan = plan;
      this.contents = contents;
      this.records = records;
    }

    /** Reads the needs, then, if asked for, what is found by the first one as it is now: while a build lasts, that stays as it was when it was found. */
    void read(int head, boolean isWithFound) {
      count = 0;
      needCount = plan.needCount[head];
      for (int place = 0; place < needCount; place++) {
        addRead(plan.needs[head * MOST_NEEDS + place]);
      }
      if (!isWithFound || plan.kind[head] != INCLUDE || needCount == 0 || !contents.has(names[0])) {
        return;
      }
      int first = names[0];
      for (int i = 0; i < contents.size[first]; i++) {
        addRead(contents.numbers[first * MOST_NUMBERS + i]);
      }
    }

    private void addRead(int name) {
      if (count < MOST_READS) {
        names[count] = name;
        sums[count] = contents.sums[name];
        count++;
      }
    }

    /** Looks at a step of which all was read just before. */
    void look(int head) {
      reason = 0;
      reasonName = NONE;
      if (records.readCount[head] < 0) {
        reason = 1;
      } else if (records.kind[head] != plan.kind[head] || records.parameter[head] != plan.parameter[head]) {
        reason = 2;
      } else {
        lookAtNames(head);
        lookAtSums(head);
        lookAtProducts(head);
      }
    }

    private void lookAtNames(int head) {
      int kept = records.readCount[head];
      for (int i = 0; i < count && reason == 0; i++) {
        if (i >= kept || names[i] != records.names[head * MOST_READS + i]) {
          setReason(3, names[i]);
        }
      }
      if (reason == 0 && kept > count) {
        setReason(3, records.names[head * MOST_READS + count]);
      }
    }

    private void lookAtSums(int head) {
      for (int i = 0; i < count && reason == 0; i++) {
        if (sums[i] != records.sums[head * MOST_READS + i]) {
          setReason(4, names[i]);
        }
      }
    }

    private void lookAtProducts(int head) {
      int other = plan.second[head];
      if (reason != 0) {
        return;
      }
      if (contents.there[head] == 0) {
        setReason(5, head);
      } else if (other >= 0 && contents.there[other] == 0) {
        setReason(5, other);
      } else if (contents.sums[head] != records.headSum[head]) {
        setReason(6, head);
      } else if (other >= 0 && (records.second[head] != other || contents.sums[other] != records.secondSum[head])) {
        setReason(6, other);
      }
    }

    private void setReason(int newReason, int name) {
      reason = newReason;
      reasonName = name;
    }
  }

  /** Makes results. */
  private static final class Maker {
    final Contents contents;
    final int[] row = new int[MOST_READS * MOST_NUMBERS];
    int size = 0;

    Maker(Contents contents) {
      this.contents = contents;
    }

    /** Makes the result of a step of which all was read just before. */
    void make(int kind, int parameter, Reading reading) {
      size = 0;
      if (kind == INCLUDE) {
        joinRange(reading, reading.needCount, reading.count);
        joinRange(reading, 1, reading.needCount);
      } else {
        joinRange(reading, 0, reading.needCount);
      }
      if (kind == SORTED) {
        sortRow();
      } else if (kind == COUNTED) {
        row[0] = size;
        size = 1;
      } else if (kind == FIRST_ONES) {
        size = Math.min(size, parameter);
      } else if (kind > INCLUDE) {
        keepFrom(parameter);
      }
    }

    private void joinRange(Reading reading, int first, int end) {
      for (int i = first; i < end; i++) {
        int name = reading.names[i];
        for (int j = 0; j < contents.size[name] && size < row.length; j++) {
          row[size] = contents.numbers[name * MOST_NUMBERS + j];
          size++;
        }
      }
    }

    private void sortRow() {
      for (int i = 1; i < size; i++) {
        int number = row[i];
        int at = i;
        for (int j = i - 1; j >= 0 && row[j] > number; j--) {
          row[j + 1] = row[j];
          at = j;
        }
        row[at] = number;
      }
    }

    private void keepFrom(int least) {
      int kept = 0;
      for (int i = 0; i < size; i++) {
        if (row[i] >= least) {
          row[kept] = row[i];
          kept++;
        }
      }
      size = kept;
    }
  }

  /** An entry of the cache. */
  private static final class Entry {
    int kind = 0;
    int parameter = 0;
    int readCount = 0;
    final long[] reads = new long[MOST_READS];
    int size = 0;
    final int[] numbers = new int[MOST_NUMBERS];
    long total = 0;

    boolean hasKey(int wantedKind, int wantedParameter, Reading reading) {
      if (kind != wantedKind || parameter != wantedParameter || readCount != reading.count) {
        return false;
      }
      for (int i = 0; i < readCount; i++) {
        if (reads[i] != reading.sums[i]) {
          return false;
        }
      }
      return true;
    }

    void setKey(int newKind, int newParameter, Reading reading) {
      kind = newKind;
      parameter = newParameter;
      readCount = reading.count;
      System.arraycopy(reading.sums, 0, reads, 0, readCount);
    }

    void setResult(int[] row, int count) {
      size = Math.min(count, MOST_NUMBERS);
      System.arraycopy(row, 0, numbers, 0, size);
      total = Contents.sumOfRow(row, size);
    }

    boolean isWrong() {
      return Contents.sumOfRow(numbers, size) != total;
    }

    void copyFrom(Entry other) {
      kind = other.kind;
      parameter = other.parameter;
      readCount = other.readCount;
      System.arraycopy(other.reads, 0, reads, 0, MOST_READS);
      size = other.size;
      System.arraycopy(other.numbers, 0, numbers, 0, MOST_NUMBERS);
      total = other.total;
    }
  }

  /** The cache. */
  private static final class Cache {
    /** From the eldest one on; those behind the count are to be used again. */
    final Entry[] entries = new Entry[MOST_ENTRIES];
    int bound = 0;
    int count = 0;
    int fetched = 0;
    int missed = 0;
    int wrong = 0;

    Cache() {
      for (int i = 0; i < MOST_ENTRIES; i++) {
        entries[i] = new Entry();
      }
    }

    boolean hasPlace(int place) {
      return place >= 0 && place < count;
    }

    void setBound(int newBound) {
      bound = newBound;
      for (int i = 0; i < MOST_ENTRIES && count > bound; i++) {
        takeEldest();
      }
    }

    private void takeEldest() {
      makeLatest(0);
      count--;
    }

    /** The place of the entry with the key, or NONE. */
    private int find(int kind, int parameter, Reading reading) {
      for (int i = 0; i < count; i++) {
        if (entries[i].hasKey(kind, parameter, reading)) {
          return i;
        }
      }
      return NONE;
    }

    /** The entry with the key, which is the latest one then; null without one, or if it is wrong. */
    Entry fetch(int kind, int parameter, Reading reading) {
      if (bound == 0) {
        return null;
      }
      int place = find(kind, parameter, reading);
      if (place < 0) {
        missed++;
        return null;
      }
      makeLatest(place);
      Entry entry = entries[count - 1];
      if (entry.isWrong()) {
        wrong++;
        count--;
        return null;
      }
      fetched++;
      return entry;
    }

    private void makeLatest(int place) {
      Entry entry = entries[place];
      for (int i = place; i + 1 < count; i++) {
        entries[i] = entries[i + 1];
      }
      entries[count - 1] = entry;
    }

    void putIn(int kind, int parameter, Reading reading, Maker maker) {
      if (bound == 0) {
        return;
      }
      int place = find(kind, parameter, reading);
      if (place < 0) {
        if (count >= bound) {
          takeEldest();
        }
        place = count;
        count++;
      }
      makeLatest(place);
      Entry entry = entries[count - 1];
      entry.setKey(kind, parameter, reading);
      entry.setResult(maker.row, maker.size);
    }

    void copyFrom(Cache other) {
      bound = other.bound;
      count = other.count;
      fetched = other.fetched;
      missed = other.missed;
      wrong = other.wrong;
      for (int i = 0; i < count; i++) {
        entries[i].copyFrom(other.entries[i]);
      }
    }
  }

  /** What can be asked of a build. */
  private static final class Report {
    final int[] state = new int[NAMES];
    final int[] reason = new int[NAMES];
    final int[] reasonName = new int[NAMES];
    final int[] began = new int[NAMES];
    final int[] settledAt = new int[NAMES];
    final int[] tries = new int[NAMES];
    final int[] hand = new int[NAMES];
    final int[] told = new int[TOLD];
    final int[] tryHeads = new int[MOST_TRIES];
    final int[] tryTimes = new int[MOST_TRIES];
    int tryCount = 0;

    Report() {
      Arrays.fill(reasonName, NONE);
      Arrays.fill(began, NONE);
      Arrays.fill(settledAt, NONE);
      Arrays.fill(hand, NONE);
    }

    void clear() {
      Arrays.fill(state, 0);
      Arrays.fill(reason, 0);
      Arrays.fill(reasonName, NONE);
      Arrays.fill(began, NONE);
      Arrays.fill(settledAt, NONE);
      Arrays.fill(tries, 0);
      Arrays.fill(hand, NONE);
      tryCount = 0;
    }

    void addTry(int head, int now) {
      tries[head]++;
      if (tryCount < MOST_TRIES) {
        tryHeads[tryCount] = head;
        tryTimes[tryCount] = now;
        tryCount++;
      }
    }

    void setReason(int head, int newReason, int name) {
      reason[head] = newReason;
      reasonName[head] = name;
    }

    /** All that are not settled are stopped; then it counts what became of all. */
    void close(int goal, int hands, int now) {
      Arrays.fill(told, 0);
      for (int head = 0; head < NAMES; head++) {
        if (state[head] > GATHERED) {
          state[head] = STOPPED;
        }
        if (state[head] != 0) {
          told[placeOf(state[head])]++;
          told[TOLD - 1]++;
        }
      }
      told[0] = goal;
      told[1] = hands;
      told[TOLD_TIME] = now;
    }

    /** At which place of last() those are counted. */
    private static int placeOf(int state) {
      switch (state) {
        case CLEAN:
          return 5;
        case FETCHED:
          return 6;
        case DONE:
          return 3;
        case SAME:
          return 4;
        case FAILED:
          return 7;
        case HANGS:
          return 8;
        case STOPPED:
          return 9;
        default:
          return 10;
      }
    }

    int tell(int head, int what) {
      switch (what) {
        case 0:
          return state[head];
        case 1:
          return reason[head];
        case 2:
          return reasonName[head];
        case 3:
          return began[head];
        case 4:
          return settledAt[head];
        case 5:
          return tries[head];
        default:
          return hand[head];
      }
    }
  }

  /** Builds, on the contents, records and cache of its own. */
  private static final class Works {
    final Plan plan;
    final Roads roads;
    final Contents contents;
    final Records records = new Records();
    final Cache store = new Cache();
    final Reading reading;
    final Maker maker;
    final Report report = new Report();
    final int[] hasFound = new int[NAMES];
    final int[] weights = new int[NAMES];
    final int[] endsAt = new int[NAMES];
    /** The heads that are at work on the hands, or NONE. */
    final int[] atHand = new int[MOST_HANDS];
    final int[] list = new int[NAMES];
    final int[] seen = new int[NAMES];
    boolean isKept = true;
    int retries = 0;
    boolean isStopped = false;
    int hands = 0;
    int shake = 0;
    int now = 0;

    Works(Plan plan, Roads roads) {
      this.plan = plan;
      this.roads = roads;
      this.contents = new Contents(plan);
      this.reading = new Reading(plan, contents, records);
      this.maker = new Maker(contents);
    }

    void forget(int name) {
      contents.clear(name);
      records.forget(name);
    }

    void copyFrom(Works other) {
      contents.copyFrom(other.contents);
      records.copyFrom(other.records);
      store.copyFrom(other.store);
      isKept = other.isKept;
      retries = other.retries;
    }

    /** Copies all but what disturbs: no faults, no cache, no stop. */
    void copyCalm(Works other) {
      copyFrom(other);
      Arrays.fill(records.faults, 0);
      store.setBound(0);
      isKept = true;
    }

    /** Builds; the roads must be in order. */
    void run(int goal, int newHands, int newShake) {
      report.clear();
      Arrays.fill(hasFound, 0);
      Arrays.fill(atHand, NONE);
      hands = newHands;
      shake = newShake;
      isStopped = false;
      now = 0;
      want(goal);
      for (int round = 0; round < MANY; round++) {
        int head = nextToGoOn();
        if (head >= 0) {
          goOn(head);
          continue;
        }
        begin();
        if (!isIdle()) {
          endTries();
        } else if (isStopped || !failRings()) {
          break;
        }
      }
      report.close(goal, hands, now);
    }

    private void want(int name) {
      int end = wantStep(name, 0);
      for (int at = 0; at < end && at < NAMES; at++) {
        int head = list[at];
        for (int place = 0; place < plan.needCount[head]; place++) {
          end = wantStep(plan.needs[head * MOST_NEEDS + place], end);
        }
      }
    }

    private int wantStep(int name, int end) {
      int head = plan.headOf[name];
      if (head < 0 || report.state[head] != 0 || end >= NAMES) {
        return end;
      }
      report.state[head] = WAITS;
      list[end] = head;
      return end + 1;
    }

    private boolean isSettled(int name) {
      int head = plan.headOf[name];
      return head < 0 || report.state[head] <= GATHERED;
    }

    /** The smallest head of those that can go on, or NONE. */
    private int nextToGoOn() {
      for (int head = 0; head < NAMES && !isStopped; head++) {
        if (report.state[head] == WAITS && firstUnsettled(head) < 0) {
          return head;
        }
      }
      return NONE;
    }

    private int firstUnsettled(int head) {
      reading.read(head, hasFound[head] == 1);
      for (int i = 0; i < reading.count; i++) {
        if (!isSettled(reading.names[i])) {
          return reading.names[i];
        }
      }
      return NONE;
    }

    private void goOn(int head) {
      reading.read(head, hasFound[head] == 1);
      int missing = firstMissing();
      int bad = firstBad();
      if (missing >= 0) {
        fail(head, NOT_THERE, missing);
      } else if (bad >= 0) {
        report.setReason(head, BEHIND_A_BAD_ONE, bad);
        settle(head, HANGS);
      } else if (plan.kind[head] == INCLUDE && hasFound[head] == 0) {
        findMore(head);
      } else if (plan.kind[head] == GROUP) {
        settle(head, GATHERED);
      } else {
        lookAt(head);
      }
    }

    private int firstMissing() {
      for (int i = 0; i < reading.count; i++) {
        if (plan.sort[reading.names[i]] == NOTHING) {
          return reading.names[i];
        }
      }
      return NONE;
    }

    private int firstBad() {
      for (int i = 0; i < reading.count; i++) {
        int head = plan.headOf[reading.names[i]];
        if (head >= 0 && (report.state[head] == FAILED || report.state[head] == HANGS)) {
          return reading.names[i];
        }
      }
      return NONE;
    }

    private void findMore(int head) {
      hasFound[head] = 1;
      reading.read(head, true);
      for (int i = reading.needCount; i < reading.count; i++) {
        want(reading.names[i]);
      }
    }

    /** Looks at a step of which all was read just before. */
    private void lookAt(int head) {
      reading.look(head);
      report.setReason(head, reading.reason, reading.reasonName);
      if (reading.reason == 0) {
        settle(head, CLEAN);
        return;
      }
      Entry entry = store.fetch(plan.kind[head], plan.parameter[head], reading);
      if (entry != null) {
        keep(head, entry.numbers, entry.size);
        records.fetchedCount[head]++;
        settle(head, FETCHED);
      } else {
        report.state[head] = READY;
        weights[head] = roads.weigh(head, report.state);
      }
    }

    /** Keeps products and record of a step of which all was read just before. */
    private void keep(int head, int[] row, int count) {
      int other = plan.second[head];
      contents.setRow(head, row, count);
      if (other >= 0) {
        contents.setOne(other, count);
      }
      records.keepReads(head, reading);
      records.keepProducts(head, other, contents);
    }

    private void settle(int head, int state) {
      report.state[head] = state;
      report.settledAt[head] = now;
    }

    private void fail(int head, int reason, int name) {
      report.setReason(head, reason, name);
      settle(head, FAILED);
      if (!isKept) {
        isStopped = true;
      }
    }

    private void begin() {
      for (int hand = 0; hand < hands && hand < MOST_HANDS && !isStopped; hand++) {
        if (atHand[hand] >= 0) {
          continue;
        }
        int head = heaviest();
        if (head < 0) {
          return;
        }
        atHand[hand] = head;
        report.state[head] = AT_WORK;
        report.hand[head] = hand;
        report.began[head] = now;
        beginTry(head);
      }
    }

    private int heaviest() {
      int best = NONE;
      for (int head = 0; head < NAMES; head++) {
        if (report.state[head] == READY && (best < 0 || weights[head] > weights[best])) {
          best = head;
        }
      }
      return best;
    }

    private void beginTry(int head) {
      report.addTry(head, now);
      endsAt[head] = now + plan.length[head] + head * shake % 4;
    }

    private boolean isIdle() {
      for (int hand = 0; hand < MOST_HANDS; hand++) {
        if (atHand[hand] >= 0) {
          return false;
        }
      }
      return true;
    }

    /** Goes on to the next end of a work, and ends all that end then. */
    private void endTries() {
      now = nextEnd();
      for (int head = 0; head < NAMES; head++) {
        if (report.state[head] != AT_WORK || endsAt[head] != now) {
          continue;
        }
        if (records.faults[head] > 0) {
          failTry(head);
        } else {
          finish(head);
        }
      }
    }

    private int nextEnd() {
      int next = NONE;
      for (int hand = 0; hand < MOST_HANDS; hand++) {
        int head = atHand[hand];
        if (head >= 0 && (next < 0 || endsAt[head] < next)) {
          next = endsAt[head];
        }
      }
      return next;
    }

    private void failTry(int head) {
      records.faults[head]--;
      // all tries until now have failed, or it would not be at work any more
      if (report.tries[head] <= retries && !isStopped) {
        beginTry(head);
      } else {
        freeHand(head);
        fail(head, BY_FAULT, NONE);
      }
    }

    private void finish(int head) {
      freeHand(head);
      reading.read(head, true);
      maker.make(plan.kind[head], plan.parameter[head], reading);
      if (maker.size > MOST_NUMBERS) {
        fail(head, TOO_LONG, NONE);
        return;
      }
      boolean isSame = isMadeAlready(head);
      keep(head, maker.row, maker.size);
      store.putIn(plan.kind[head], plan.parameter[head], reading, maker);
      records.addMinutes(head, now - report.began[head]);
      settle(head, isSame ? SAME : DONE);
    }

    private void freeHand(int head) {
      int hand = report.hand[head];
      if (hand >= 0) {
        atHand[hand] = NONE;
      }
    }

    private boolean isMadeAlready(int head) {
      int other = plan.second[head];
      return contents.isLike(head, Contents.sumOfRow(maker.row, maker.size))
          && (other < 0 || contents.isLike(other, maker.size + 1));
    }

    /** Fails all that wait for themselves, together; tells whether there were some. */
    private boolean failRings() {
      boolean isOne = false;
      for (int head = 0; head < NAMES; head++) {
        if (report.state[head] == WAITS && waitsForItself(head)) {
          report.setReason(head, IN_A_RING, firstUnsettled(head));
          isOne = true;
        }
      }
      for (int head = 0; head < NAMES; head++) {
        if (report.state[head] == WAITS && report.reason[head] == IN_A_RING) {
          fail(head, IN_A_RING, report.reasonName[head]);
        }
      }
      return isOne;
    }

    private boolean waitsForItself(int start) {
      Arrays.fill(seen, 0);
      int end = seeAwaited(start, 0);
      for (int at = 0; at < end && at < NAMES; at++) {
        end = seeAwaited(list[at], end);
      }
      return seen[start] == 1;
    }

    private int seeAwaited(int head, int before) {
      int end = before;
      reading.read(head, hasFound[head] == 1);
      for (int i = 0; i < reading.count; i++) {
        int other = plan.headOf[reading.names[i]];
        if (other >= 0 && !isSettled(other) && seen[other] == 0 && end < NAMES) {
          seen[other] = 1;
          list[end] = other;
          end++;
        }
      }
      return end;
    }
  }

  /** What is asked without a build: what all would be from nothing, and which steps are marked. */
  private static final class Survey {
    final Plan plan;
    final Contents contents;
    final Records records;
    final Reading reading;
    final int[] marked = new int[NAMES];
    final Contents made;
    final Reading madeReading;
    final Maker maker;
    final int[] isMade = new int[NAMES];

    Survey(Plan plan, Contents contents, Records records) {
      this.plan = plan;
      this.contents = contents;
      this.records = records;
      this.reading = new Reading(plan, contents, records);
      this.made = new Contents(plan);
      this.madeReading = new Reading(plan, made, records);
      this.maker = new Maker(made);
    }

    void markAll() {
      for (int head = 0; head < NAMES; head++) {
        marked[head] = plan.isHead(head) && plan.kind[head] != GROUP && isStale(head) ? 1 : 0;
      }
      boolean isMore = true;
      for (int turn = 0; turn < NAMES && isMore; turn++) {
        isMore = false;
        for (int head = 0; head < NAMES; head++) {
          if (plan.isHead(head) && marked[head] == 0 && leadsToMarked(head)) {
            marked[head] = 1;
            isMore = true;
          }
        }
      }
    }

    private boolean isStale(int head) {
      reading.read(head, true);
      for (int i = 0; i < reading.count; i++) {
        if (!contents.has(reading.names[i])) {
          return true;
        }
      }
      reading.look(head);
      return reading.reason != 0;
    }

    private boolean leadsToMarked(int head) {
      for (int place = 0; place < plan.needCount[head]; place++) {
        if (isMarked(plan.needs[head * MOST_NEEDS + place])) {
          return true;
        }
      }
      for (int i = records.needCount[head]; i < records.readCount[head]; i++) {
        if (isMarked(records.names[head * MOST_READS + i])) {
          return true;
        }
      }
      return false;
    }

    private boolean isMarked(int name) {
      int head = plan.headOf[name];
      return head >= 0 && marked[head] == 1;
    }

    /** Makes all that can be made of the sources alone; a ring never comes to its turn. */
    void makeAll() {
      made.copyFrom(contents);
      Arrays.fill(isMade, 0);
      for (int name = 0; name < NAMES; name++) {
        if (plan.sort[name] != SOURCE) {
          made.clear(name);
        }
      }
      boolean isMore = true;
      for (int turn = 0; turn < NAMES && isMore; turn++) {
        isMore = false;
        for (int head = 0; head < NAMES; head++) {
          if (plan.isHead(head) && isMade[head] == 0 && isMadeNow(head)) {
            isMade[head] = 1;
            isMore = true;
          }
        }
      }
    }

    boolean hasScratch(int name) {
      int head = plan.headOf[name];
      return head >= 0 ? isMade[head] == 1 : plan.sort[name] == SOURCE;
    }

    private boolean isMadeNow(int head) {
      madeReading.read(head, true);
      for (int i = 0; i < madeReading.count; i++) {
        if (!hasScratch(madeReading.names[i])) {
          return false;
        }
      }
      if (plan.kind[head] == GROUP) {
        return true;
      }
      maker.make(plan.kind[head], plan.parameter[head], madeReading);
      if (maker.size > MOST_NUMBERS) {
        return false;
      }
      made.setRow(head, maker.row, maker.size);
      if (plan.second[head] >= 0) {
        made.setOne(plan.second[head], maker.size);
      }
      return true;
    }
  }
}
