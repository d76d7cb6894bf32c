import java.util.Arrays;

/**
 * A room of straight bounds, and a wish: bounds on one to three numbers, and the best of a wish,
 * sought exactly and step by step on a table. The words in the comments are those of the document.
 */
public final class Simplexroom {
  private static final int NONE = -1;
  private static final int MOST_UNKNOWNS = 3;
  private static final int FIRST_WIDTH = 2;
  private static final int MOST_BOUNDS = 6;
  private static final int MOST_ROWS = 2 * MOST_BOUNDS;
  private static final int MOST_VARIABLES = MOST_UNKNOWNS + MOST_ROWS;
  private static final int MOST_FACTOR = 9;
  private static final int MOST_RIGHT = 99;
  private static final int MOST_STEPS = 20;
  private static final int MOST_BENDS = 6;
  private static final int MOST_TASKS = 20;
  private static final int MOST_IN_SET = 30;

  private static final int NO_MORE = 0;
  private static final int NO_LESS = 1;
  private static final int THE_SAME = 2;

  private static final int OPEN = 0;
  private static final int BEST = 1;
  private static final int EVER = 2;
  private static final int NOTHING = 3;

  private final Told told = new Told();
  private final Table table = new Table();
  private final Table trial = new Table();
  private final Trail trail = new Trail();
  private final Region region = new Region();
  private final Tasks tasks = new Tasks();
  private final Mean mean = new Mean();
  private int answer = OPEN;
  private int steps = 0;
  private int enters = NONE;
  private int leaves = NONE;
  private int blanks = 0;
  private int knocks = 0;

  public Simplexroom() {
  }

  // ---- the room

  public int wide(int width) throws IllegalArgumentException {
    if (width < 1 || width > MOST_UNKNOWNS) {
      throw new IllegalArgumentException("width is not 1 to 3");
    }
    int before = told.width;
    told.clear(width);
    toStart();
    return before;
  }

  public int bound(int a, int b, int c, int kind, int right) throws IllegalArgumentException, IllegalStateException {
    if (!areFactors(a, b, c)) {
      throw new IllegalArgumentException("a factor is not -9 to 9");
    }
    if (kind < NO_MORE || kind > THE_SAME) {
      throw new IllegalArgumentException("kind is not 0 to 2");
    }
    needRight(right);
    int free = told.firstFree();
    if (free == NONE) {
      throw new IllegalStateException("there are 6 bounds");
    }
    told.tell(free, a, b, c, kind, right);
    toStart();
    return free;
  }

  public int drop(int bound) throws IndexOutOfBoundsException {
    needBound(bound);
    told.forget(bound);
    toStart();
    return Integer.bitCount(told.set);
  }

  public int right(int bound, int right) throws IndexOutOfBoundsException, IllegalArgumentException {
    needBound(bound);
    needRight(right);
    int before = told.rightOf(bound);
    told.tellRight(bound, right);
    toStart();
    return before;
  }

  public int wish(int a, int b, int c) throws IllegalArgumentException {
    if (!areFactors(a, b, c)) {
      throw new IllegalArgumentException("a factor is not -9 to 9");
    }
    int changed = told.tellWish(a, b, c);
    toStart();
    return changed;
  }

  // ---- the search

  public int start() {
    int before = steps;
    toStart();
    return before;
  }

  public int step(int rule) throws IllegalArgumentException {
    needRule(rule);
    return makeStep(rule);
  }

  public int run(int rule, int most) throws IllegalArgumentException {
    needRule(rule);
    if (most < 1 || most > MOST_STEPS) {
      throw new IllegalArgumentException("most is not 1 to 20");
    }
    int made = 0;
    for (int i = 0; i < most && answer == OPEN && ring() == NONE; i++) {
      int done = makeStep(rule);
      if (done == 1 || done == 2) {
        made++;
      }
    }
    return made;
  }

  public int blank() {
    blanks++;
    return -9;
  }

  public int knock() {
    knocks++;
    return knocks;
  }

  // ---- what is asked of bounds and the table

  public int ofBound(int bound, int what) throws IndexOutOfBoundsException, IllegalArgumentException {
    needBound(bound);
    if (what < 0 || what > 5) {
      throw new IllegalArgumentException("what is not 0 to 5");
    }
    switch (what) {
      case 3:
        return told.kindOf(bound);
      case 4:
        return told.rightOf(bound);
      case 5:
        return told.firstRow(bound);
      default:
        return told.factorOf(bound, what);
    }
  }

  public int house(int what) throws IllegalArgumentException {
    switch (what) {
      case 0:
        return told.width;
      case 1:
        return Integer.bitCount(told.set);
      case 2:
        return told.set;
      case 3:
        return told.rows;
      case 4:
        return answer;
      case 5:
        return steps;
      case 6:
        return table.basics();
      case 7:
        return ring();
      case 8:
        return blanks;
      case 9:
        return knocks;
      case 10:
      case 11:
      case 12:
        return told.wanted(what - 10);
      default:
        throw new IllegalArgumentException("what is not 0 to 12");
    }
  }

  public String value() {
    StringBuilder text = new StringBuilder();
    putFraction(text, table.worth(), table.bottom);
    return text.toString();
  }

  public String number(int variable) throws IndexOutOfBoundsException {
    needVariable(variable);
    StringBuilder text = new StringBuilder();
    putFraction(text, table.amount(variable), table.bottom);
    return text.toString();
  }

  public String factor(int basic, int outer) throws IndexOutOfBoundsException {
    if (basic != NONE) {
      needVariable(basic);
    }
    needVariable(outer);
    if (!table.isOuter(outer) || basic != NONE && table.isOuter(basic)) {
      return "";
    }
    long top = basic == NONE ? table.gain(outer) : table.entry(basic, outer);
    StringBuilder text = new StringBuilder();
    putFraction(text, top, table.bottom);
    return text.toString();
  }

  // ---- witnesses, ranges, lines

  public String price(int row) throws IndexOutOfBoundsException, IllegalStateException {
    needRow(row);
    needAnswer(BEST);
    StringBuilder text = new StringBuilder();
    putFraction(text, priceTop(row), table.bottom);
    return text.toString();
  }

  public String way(int unknown) throws IndexOutOfBoundsException, IllegalStateException {
    needUnknown(unknown);
    needAnswer(EVER);
    StringBuilder text = new StringBuilder();
    putFraction(text, wayTop(unknown), table.bottom);
    return text.toString();
  }

  public String multiplier(int row) throws IndexOutOfBoundsException, IllegalStateException {
    needRow(row);
    needAnswer(NOTHING);
    StringBuilder text = new StringBuilder();
    putFraction(text, multiplierTop(row), table.bottom);
    return text.toString();
  }

  public String rangeOf(int row, boolean isGreatest) throws IndexOutOfBoundsException, IllegalStateException {
    needRow(row);
    needAnswer(BEST);
    StringBuilder text = new StringBuilder();
    putRange(text, row, isGreatest);
    return text.toString();
  }

  public String wishRange(int unknown, boolean isGreatest) throws IndexOutOfBoundsException, IllegalStateException {
    needUnknown(unknown);
    needAnswer(BEST);
    StringBuilder text = new StringBuilder();
    putWishRange(text, unknown, isGreatest);
    return text.toString();
  }

  public String line(int row) throws IndexOutOfBoundsException, IllegalStateException {
    needRow(row);
    needAnswer(BEST);
    int slack = told.width + row;
    StringBuilder text = new StringBuilder();
    trial.copyFrom(table);
    putPlace(text, slack, told.rowRight(row), 0, 1);
    for (int bend = 1; bend <= MOST_BENDS; bend++) {
      int falls = trial.firstToFall(slack, -1);
      if (falls == NONE) {
        text.append(" +");
        break;
      }
      text.append(' ');
      putPlace(text, slack, told.rowRight(row), trial.amount(falls), -trial.rate(falls, slack));
      if (bend == MOST_BENDS) {
        break;
      }
      int comes = trial.cheapestToEnter(falls);
      if (comes == NONE) {
        text.append(" !");
        break;
      }
      trial.exchange(falls, comes);
    }
    return text.toString();
  }

  // ---- corners, whole numbers, what matters (by the ROOM alone)

  public int corners() {
    findCorners();
    return region.count;
  }

  public String corner(int nth) throws IndexOutOfBoundsException {
    findCorners();
    if (nth < 0 || nth >= region.count) {
      throw new IndexOutOfBoundsException("there is no such corner");
    }
    StringBuilder text = new StringBuilder();
    region.put(text, nth, told.width);
    return text.toString();
  }

  public int rays() {
    findRays();
    return region.count;
  }

  public String ray(int nth) throws IndexOutOfBoundsException {
    findRays();
    if (nth < 0 || nth >= region.count) {
      throw new IndexOutOfBoundsException("there is no such ray");
    }
    StringBuilder text = new StringBuilder();
    region.put(text, nth, told.width);
    return text.toString();
  }

  public int best(boolean isSet) {
    findCorners();
    int most = region.firstBest(told);
    int many = 0;
    int set = 0;
    for (int i = 0; i < region.count; i++) {
      if (region.compareWorth(told, i, most) == 0) {
        many++;
        if (i < MOST_IN_SET) {
          set |= 1 << i;
        }
      }
    }
    return isSet ? set : many;
  }

  public String middle() {
    StringBuilder text = new StringBuilder();
    findCorners();
    mean.put(text, region, told);
    return text.toString();
  }

  public String whole(int what) throws IllegalArgumentException, IllegalStateException {
    if (what < 0 || what > 2) {
      throw new IllegalArgumentException("what is not 0 to 2");
    }
    findRays();
    if (region.count > 0) {
      throw new IllegalStateException("there is a ray");
    }
    tasks.search(told, region);
    StringBuilder text = new StringBuilder();
    if (what == 2) {
      putFraction(text, tasks.taken, 1);
    } else if (tasks.isMany) {
      text.append('?');
    } else if (!tasks.isFound) {
      text.append('!');
    } else if (what == 0) {
      putFraction(text, tasks.foundWorth, 1);
    } else {
      tasks.putFound(text, told.width);
    }
    return text.toString();
  }

  public int needless() {
    int set = 0;
    for (int bound = 0; bound < MOST_BOUNDS; bound++) {
      if (told.has(bound) && isNeedless(bound)) {
        set |= 1 << bound;
      }
    }
    return set;
  }

  public int fewest() {
    if (hasPoint(told.set)) {
      return 0;
    }
    for (int size = 1; size <= MOST_BOUNDS; size++) {
      for (int set = 1; set < 1 << MOST_BOUNDS; set++) {
        boolean isPart = (set & ~told.set) == 0;
        if (isPart && Integer.bitCount(set) == size && !hasPoint(set)) {
          return set;
        }
      }
    }
    return 0;
  }

  public String would(int bound, int right) throws IndexOutOfBoundsException, IllegalArgumentException {
    needBound(bound);
    needRight(right);
    findRays();
    boolean isEndless = region.hasRising(told);
    region.load(told, told.set, false);
    region.limitBound(bound, right);
    region.find();
    int most = region.firstBest(told);
    StringBuilder text = new StringBuilder();
    if (most == NONE) {
      text.append('!');
    } else if (isEndless) {
      text.append('+');
    } else {
      putFraction(text, region.worth(told, most), region.bottomOf(most));
    }
    return text.toString();
  }

  public boolean isSound() {
    switch (answer) {
      case BEST:
        return isBestSound();
      case EVER:
        return isEverSound();
      case NOTHING:
        return isNothingSound();
      default:
        findCorners();
        return table.firstBelow() != NONE || pointCorner() != NONE;
    }
  }

  public long digest() {
    StringBuilder text = new StringBuilder();
    long d = 6841;
    for (int what = 0; what <= 12; what++) {
      d = d * 31 + house(what);
    }
    for (int bound = 0; bound < MOST_BOUNDS; bound++) {
      if (told.has(bound)) {
        d = d * 31 + bound;
        for (int what = 0; what <= 5; what++) {
          d = d * 31 + ofBound(bound, what);
        }
      }
    }
    putFraction(text, table.worth(), table.bottom);
    d = d * 31 + text.length();
    for (int variable = 0; variable < table.variables(); variable++) {
      d = d * 31 + lengthOf(text, table.amount(variable));
    }
    d = digestWitness(d, text);
    d = digestRoom(d, text);
    return d * 31 + (isSound() ? 1 : 0);
  }

  // ---- tests of arguments

  private void needBound(int bound) {
    if (!told.has(bound)) {
      throw new IndexOutOfBoundsException("there is no such bound");
    }
  }

  private static void needRight(int right) {
    if (right < -MOST_RIGHT || right > MOST_RIGHT) {
      throw new IllegalArgumentException("right is not -99 to 99");
    }
  }

  private static void needRule(int rule) {
    if (rule < 0 || rule > 2) {
      throw new IllegalArgumentException("rule is not 0 to 2");
    }
  }

  private void needVariable(int variable) {
    if (variable < 0 || variable >= table.variables()) {
      throw new IndexOutOfBoundsException("there is no such variable");
    }
  }

  private void needUnknown(int unknown) {
    if (unknown < 0 || unknown >= told.width) {
      throw new IndexOutOfBoundsException("there is no such unknown");
    }
  }

  private void needRow(int row) {
    if (row < 0 || row >= told.rows) {
      throw new IndexOutOfBoundsException("there is no such row");
    }
  }

  private void needAnswer(int due) {
    if (answer != due) {
      throw new IllegalStateException("the answer is another one");
    }
  }

  private boolean areFactors(int a, int b, int c) {
    return isFactor(a) && (told.width < 2 || isFactor(b)) && (told.width < 3 || isFactor(c));
  }

  private static boolean isFactor(int factor) {
    return factor >= -MOST_FACTOR && factor <= MOST_FACTOR;
  }

  // ---- the search, inside

  private void toStart() {
    table.begin(told);
    trail.forget();
    answer = OPEN;
    steps = 0;
    enters = NONE;
    leaves = NONE;
  }

  private int ring() {
    int last = trail.lastOf(table.basics());
    return last == NONE ? NONE : steps - last;
  }

  private int makeStep(int rule) {
    if (answer != OPEN) {
      return 0;
    }
    int below = table.firstBelow();
    return below == NONE ? stepUp(rule) : stepIn(below);
  }

  private int stepIn(int below) {
    leaves = below;
    enters = table.firstLifter(below);
    if (enters == NONE) {
      answer = NOTHING;
      return 5;
    }
    change();
    return 1;
  }

  private int stepUp(int rule) {
    if (rule == 2) {
      enters = table.greatestGrowth();
    } else {
      enters = rule == 1 ? table.greatestGain() : table.firstGain();
    }
    if (enters == NONE) {
      answer = BEST;
      return 3;
    }
    leaves = table.firstLimit(enters);
    if (leaves == NONE) {
      answer = EVER;
      return 4;
    }
    change();
    return 2;
  }

  private void change() {
    trail.note(table.basics(), steps);
    table.exchange(leaves, enters);
    steps++;
  }

  // ---- witnesses, inside: tops over the bottom of the table

  private long priceTop(int row) {
    return -table.gain(told.width + row);
  }

  private long wayTop(int unknown) {
    if (unknown == enters) {
      return table.bottom;
    }
    return -table.entry(unknown, enters);
  }

  private long multiplierTop(int row) {
    int slack = told.width + row;
    if (slack == leaves) {
      return table.bottom;
    }
    return table.entry(leaves, slack);
  }

  private void putRange(StringBuilder text, int row, boolean isGreatest) {
    int slack = told.width + row;
    int side = isGreatest ? -1 : 1;
    int falls = table.firstToFall(slack, side);
    if (falls == NONE) {
      text.append('-');
      return;
    }
    long fall = side * table.rate(falls, slack);
    putFraction(text, told.rowRight(row) * fall - side * table.amount(falls), fall);
  }

  private void putWishRange(StringBuilder text, int unknown, boolean isGreatest) {
    long wanted = told.wanted(unknown);
    if (table.isOuter(unknown)) {
      if (isGreatest) {
        putFraction(text, wanted * table.bottom - table.gain(unknown), table.bottom);
      } else {
        text.append('-');
      }
      return;
    }
    int side = isGreatest ? -1 : 1;
    int rises = table.firstToRise(unknown, side);
    if (rises == NONE) {
      text.append('-');
      return;
    }
    long fall = side * table.entry(unknown, rises);
    putFraction(text, wanted * fall + side * table.gain(rises), fall);
  }

  /** Puts RIGHT and VALUE of the tried table where the right has grown by the fraction. */
  private void putPlace(StringBuilder text, int slack, long right, long top, long bottom) {
    putFraction(text, right * bottom + top, bottom);
    text.append(':');
    putFraction(text, trial.worth() * bottom - trial.gain(slack) * top, trial.bottom * bottom);
  }

  // ---- corners, inside

  private void findCorners() {
    region.load(told, told.set, false);
    region.find();
  }

  private void findRays() {
    region.load(told, told.set, true);
    region.find();
  }

  private boolean hasPoint(int set) {
    region.load(told, set, false);
    region.find();
    // no unknown is below 0, so a room with a point has a corner
    return region.count > 0;
  }

  private boolean isNeedless(int bound) {
    int others = told.set & ~(1 << bound);
    region.load(told, others, false);
    region.find();
    if (region.count == 0) {
      return true;
    }
    if (!region.allKeep(told, bound, told.rightOf(bound))) {
      return false;
    }
    region.load(told, others, true);
    region.find();
    return region.allKeep(told, bound, 0);
  }

  // ---- whether all is sound

  /** The one of the corners in the region that the POINT is, or NONE. */
  private int pointCorner() {
    for (int i = 0; i < region.count; i++) {
      if (isPoint(i)) {
        return i;
      }
    }
    return NONE;
  }

  private boolean isPoint(int corner) {
    for (int k = 0; k < told.width; k++) {
      if (region.coordinate(corner, k) * table.bottom != table.amount(k) * region.bottomOf(corner)) {
        return false;
      }
    }
    return true;
  }

  private boolean isBestSound() {
    findCorners();
    int here = pointCorner();
    if (here == NONE || region.compareWorth(told, here, region.firstBest(told)) != 0) {
      return false;
    }
    findRays();
    if (region.hasRising(told)) {
      return false;
    }
    return arePricesSound();
  }

  private boolean arePricesSound() {
    long sum = 0;
    for (int row = 0; row < told.rows; row++) {
      if (priceTop(row) < 0) {
        return false;
      }
      sum += priceTop(row) * told.rowRight(row);
    }
    for (int k = 0; k < told.width; k++) {
      long cost = 0;
      for (int row = 0; row < told.rows; row++) {
        cost += priceTop(row) * told.rowFactor(row, k);
      }
      if (cost < told.wanted(k) * table.bottom) {
        return false;
      }
    }
    return sum == table.worth();
  }

  private boolean isEverSound() {
    for (int row = 0; row < told.rows; row++) {
      long sum = 0;
      for (int k = 0; k < told.width; k++) {
        sum += wayTop(k) * told.rowFactor(row, k);
      }
      if (sum > 0) {
        return false;
      }
    }
    findRays();
    return region.hasRising(told);
  }

  private boolean isNothingSound() {
    long rights = 0;
    for (int row = 0; row < told.rows; row++) {
      if (multiplierTop(row) < 0) {
        return false;
      }
      rights += multiplierTop(row) * told.rowRight(row);
    }
    for (int k = 0; k < told.width; k++) {
      long sum = 0;
      for (int row = 0; row < told.rows; row++) {
        sum += multiplierTop(row) * told.rowFactor(row, k);
      }
      if (sum < 0) {
        return false;
      }
    }
    return rights < 0 && !hasPoint(told.set);
  }

  // ---- the checksum, inside

  private long digestWitness(long from, StringBuilder text) {
    long d = from;
    if (answer == BEST) {
      for (int row = 0; row < told.rows; row++) {
        d = d * 31 + lengthOf(text, priceTop(row));
        d = d * 31 + lengthOfRange(text, row, false);
        d = d * 31 + lengthOfRange(text, row, true);
      }
      for (int k = 0; k < told.width; k++) {
        d = d * 31 + lengthOfWishRange(text, k, false);
        d = d * 31 + lengthOfWishRange(text, k, true);
      }
    } else if (answer == EVER) {
      for (int k = 0; k < told.width; k++) {
        d = d * 31 + lengthOf(text, wayTop(k));
      }
    } else if (answer == NOTHING) {
      for (int row = 0; row < told.rows; row++) {
        d = d * 31 + lengthOf(text, multiplierTop(row));
      }
    }
    return d;
  }

  private long digestRoom(long from, StringBuilder text) {
    long d = from * 31 + corners();
    if (region.count > 0) {
      text.setLength(0);
      region.put(text, 0, told.width);
      d = d * 31 + text.length();
    }
    d = d * 31 + rays();
    d = d * 31 + best(false);
    d = d * 31 + best(true);
    text.setLength(0);
    findCorners();
    mean.put(text, region, told);
    return d * 31 + text.length();
  }

  private int lengthOf(StringBuilder text, long top) {
    text.setLength(0);
    putFraction(text, top, table.bottom);
    return text.length();
  }

  private int lengthOfRange(StringBuilder text, int row, boolean isGreatest) {
    text.setLength(0);
    putRange(text, row, isGreatest);
    return text.length();
  }

  private int lengthOfWishRange(StringBuilder text, int unknown, boolean isGreatest) {
    text.setLength(0);
    putWishRange(text, unknown, isGreatest);
    return text.length();
  }

  // ---- texts and fractions

  private static void putFraction(StringBuilder text, long top, long bottom) {
    long common = commonDivisor(top, bottom);
    if (common == 0) {
      return;
    }
    boolean isBelow = top < 0 && bottom > 0 || top > 0 && bottom < 0;
    if (isBelow) {
      text.append('-');
    }
    putWhole(text, Math.abs(top) / common);
    long under = Math.abs(bottom) / common;
    if (under != 1) {
      text.append('/');
      putWhole(text, under);
    }
  }

  /** Puts a number that is not below 0. */
  private static void putWhole(StringBuilder text, long number) {
    long power = 1;
    for (int i = 0; i < 18 && number / 10 >= power; i++) {
      power *= 10;
    }
    for (int i = 0; i < 19 && power > 0; i++) {
      text.append((char) ('0' + number / power % 10));
      power /= 10;
    }
  }

  /** The greatest common divisor, not below 0; 0 if both are 0. */
  private static long commonDivisor(long one, long other) {
    long a = one < 0 ? -one : one;
    long b = other < 0 ? -other : other;
    for (int i = 0; i < 200 && b != 0; i++) {
      long rest = a % b;
      a = b;
      b = rest;
    }
    return a;
  }

  /** The bounds and the wish as they were told, and the rows that follow from them. */
  private static final class Told {
    int width = FIRST_WIDTH;
    int set = 0;
    int rows = 0;
    private final int[] factors = new int[MOST_BOUNDS * MOST_UNKNOWNS];
    private final int[] kinds = new int[MOST_BOUNDS];
    private final int[] rights = new int[MOST_BOUNDS];
    private final int[] wishes = new int[MOST_UNKNOWNS];
    private final int[] rowBounds = new int[MOST_ROWS];
    private final int[] rowSigns = new int[MOST_ROWS];

    boolean has(int bound) {
      return bound >= 0 && bound < MOST_BOUNDS && (set >> bound & 1) == 1;
    }

    int firstFree() {
      for (int bound = 0; bound < MOST_BOUNDS; bound++) {
        if (!has(bound)) {
          return bound;
        }
      }
      return NONE;
    }

    void clear(int newWidth) {
      width = newWidth;
      set = 0;
      Arrays.fill(wishes, 0);
      countRows();
    }

    void tell(int bound, int a, int b, int c, int kind, int right) {
      if (bound < 0 || bound >= MOST_BOUNDS) {
        return;
      }
      int at = bound * MOST_UNKNOWNS;
      factors[at] = a;
      factors[at + 1] = width < 2 ? 0 : b;
      factors[at + 2] = width < 3 ? 0 : c;
      kinds[bound] = kind;
      rights[bound] = right;
      set |= 1 << bound;
      countRows();
    }

    void forget(int bound) {
      if (has(bound)) {
        set &= ~(1 << bound);
        countRows();
      }
    }

    void tellRight(int bound, int right) {
      if (has(bound)) {
        rights[bound] = right;
      }
    }

    int tellWish(int a, int b, int c) {
      int changed = tellWanted(0, a);
      changed += tellWanted(1, width < 2 ? 0 : b);
      changed += tellWanted(2, width < 3 ? 0 : c);
      return changed;
    }

    private int tellWanted(int unknown, int wanted) {
      if (unknown < 0 || unknown >= MOST_UNKNOWNS || wishes[unknown] == wanted) {
        return 0;
      }
      wishes[unknown] = wanted;
      return 1;
    }

    int wanted(int unknown) {
      return unknown < 0 || unknown >= MOST_UNKNOWNS ? 0 : wishes[unknown];
    }

    int factorOf(int bound, int unknown) {
      if (!has(bound) || unknown < 0 || unknown >= MOST_UNKNOWNS) {
        return 0;
      }
      return factors[bound * MOST_UNKNOWNS + unknown];
    }

    int kindOf(int bound) {
      return has(bound) ? kinds[bound] : 0;
    }

    int rightOf(int bound) {
      return has(bound) ? rights[bound] : 0;
    }

    private void countRows() {
      rows = 0;
      for (int bound = 0; bound < MOST_BOUNDS; bound++) {
        if (has(bound)) {
          if (kinds[bound] != NO_LESS) {
            addRow(bound, 1);
          }
          if (kinds[bound] != NO_MORE) {
            addRow(bound, -1);
          }
        }
      }
    }

    private void addRow(int bound, int sign) {
      if (rows >= 0 && rows < MOST_ROWS) {
        rowBounds[rows] = bound;
        rowSigns[rows] = sign;
        rows++;
      }
    }

    int firstRow(int bound) {
      for (int row = 0; row < rows && row < MOST_ROWS; row++) {
        if (rowBounds[row] == bound) {
          return row;
        }
      }
      return NONE;
    }

    int rowFactor(int row, int unknown) {
      if (row < 0 || row >= MOST_ROWS) {
        return 0;
      }
      return rowSigns[row] * factorOf(rowBounds[row], unknown);
    }

    int rowRight(int row) {
      if (row < 0 || row >= MOST_ROWS) {
        return 0;
      }
      return rowSigns[row] * rightOf(rowBounds[row]);
    }
  }

  /**
   * A TABLE in whole numbers over one bottom above 0, the determinant of its BASICS: so nothing is
   * rounded, and all numbers stay small. The last line is the WISH, with its GAINS turned in sign.
   */
  private static final class Table {
    private static final int WISH = MOST_ROWS;
    private static final int NUMBER = MOST_UNKNOWNS;
    long bottom = 1;
    private int size = FIRST_WIDTH;
    private final long[][] cells = new long[MOST_ROWS + 1][MOST_UNKNOWNS + 1];
    private final int[] lines = new int[MOST_VARIABLES];
    private final int[] columns = new int[MOST_VARIABLES];

    /** The table of a new room: no rows, all unknowns are OUTER ones. */
    Table() {
      for (int v = 0; v < MOST_VARIABLES; v++) {
        lines[v] = NONE;
        columns[v] = v < FIRST_WIDTH ? v : NONE;
      }
    }

    void begin(Told told) {
      bottom = 1;
      size = told.width + told.rows;
      for (int i = 0; i <= WISH; i++) {
        for (int k = 0; k <= NUMBER; k++) {
          cells[i][k] = 0;
        }
      }
      for (int row = 0; row < told.rows && row < MOST_ROWS; row++) {
        for (int k = 0; k < told.width && k < MOST_UNKNOWNS; k++) {
          cells[row][k] = told.rowFactor(row, k);
        }
        cells[row][NUMBER] = told.rowRight(row);
      }
      for (int k = 0; k < told.width && k < MOST_UNKNOWNS; k++) {
        cells[WISH][k] = -told.wanted(k);
      }
      for (int v = 0; v < MOST_VARIABLES; v++) {
        boolean isUnknown = v < told.width;
        lines[v] = isUnknown || v >= size ? NONE : v - told.width;
        columns[v] = isUnknown ? v : NONE;
      }
    }

    void copyFrom(Table other) {
      bottom = other.bottom;
      size = other.size;
      for (int i = 0; i <= WISH; i++) {
        System.arraycopy(other.cells[i], 0, cells[i], 0, NUMBER + 1);
      }
      System.arraycopy(other.lines, 0, lines, 0, MOST_VARIABLES);
      System.arraycopy(other.columns, 0, columns, 0, MOST_VARIABLES);
    }

    int variables() {
      return size;
    }

    boolean isOuter(int variable) {
      return variable >= 0 && variable < MOST_VARIABLES && columns[variable] >= 0
          && columns[variable] < MOST_UNKNOWNS;
    }

    private boolean isBasic(int variable) {
      return variable >= 0 && variable < MOST_VARIABLES && lines[variable] >= 0
          && lines[variable] < MOST_ROWS;
    }

    int basics() {
      int set = 0;
      for (int v = 0; v < size; v++) {
        if (isBasic(v)) {
          set |= 1 << v;
        }
      }
      return set;
    }

    long worth() {
      return cells[WISH][NUMBER];
    }

    /** What a VARIABLE is if all OUTER ones are 0. */
    long amount(int variable) {
      return isBasic(variable) ? cells[lines[variable]][NUMBER] : 0;
    }

    /** The FACTOR of an OUTER one in a BASIC; 0 for all others. */
    long entry(int basic, int outer) {
      return isBasic(basic) && isOuter(outer) ? cells[lines[basic]][columns[outer]] : 0;
    }

    /** The GAIN of an OUTER one; 0 for a BASIC. */
    long gain(int outer) {
      return isOuter(outer) ? -cells[WISH][columns[outer]] : 0;
    }

    /** By how much a BASIC grows as the RIGHT of the SLACK's ROW grows by 1. */
    long rate(int basic, int slack) {
      if (isOuter(slack)) {
        return entry(basic, slack);
      }
      return basic == slack ? bottom : 0;
    }

    int firstBelow() {
      for (int v = 0; v < size; v++) {
        if (amount(v) < 0) {
          return v;
        }
      }
      return NONE;
    }

    /** The first OUTER one that lifts a BASIC as it grows. */
    int firstLifter(int basic) {
      for (int v = 0; v < size; v++) {
        if (entry(basic, v) < 0) {
          return v;
        }
      }
      return NONE;
    }

    int firstGain() {
      for (int v = 0; v < size; v++) {
        if (gain(v) > 0) {
          return v;
        }
      }
      return NONE;
    }

    int greatestGain() {
      int most = NONE;
      for (int v = 0; v < size; v++) {
        if (gain(v) > 0 && (most == NONE || gain(v) > gain(most))) {
          most = v;
        }
      }
      return most;
    }

    int greatestGrowth() {
      int most = NONE;
      long mostTop = 0;
      long mostUnder = 1;
      for (int v = 0; v < size; v++) {
        if (gain(v) > 0) {
          int limit = firstLimit(v);
          if (limit == NONE) {
            return v;
          }
          // both growths are over the bottom of the table, which is left away
          long top = gain(v) * amount(limit);
          long under = entry(limit, v);
          if (most == NONE || top * mostUnder > mostTop * under) {
            most = v;
            mostTop = top;
            mostUnder = under;
          }
        }
      }
      return most;
    }

    /** The first of the BASICS with the LIMIT of an OUTER one, or NONE without a LIMIT. */
    int firstLimit(int outer) {
      int least = NONE;
      for (int v = 0; v < size; v++) {
        long under = entry(v, outer);
        if (under > 0 && (least == NONE || amount(v) * entry(least, outer) < amount(least) * under)) {
          least = v;
        }
      }
      return least;
    }

    /**
     * The first BASIC that comes to 0 as the RIGHT of the SLACK's ROW grows (side -1) or shrinks
     * (side 1), or NONE.
     */
    int firstToFall(int slack, int side) {
      int least = NONE;
      long leastFall = 1;
      for (int v = 0; v < size; v++) {
        long fall = isBasic(v) ? side * rate(v, slack) : 0;
        if (fall > 0 && (least == NONE || amount(v) * leastFall < amount(least) * fall)) {
          least = v;
          leastFall = fall;
        }
      }
      return least;
    }

    /**
     * The first OUTER one whose GAIN comes to 0 as the FACTOR of a BASIC in the WISH grows (side -1)
     * or shrinks (side 1), or NONE.
     */
    int firstToRise(int basic, int side) {
      int least = NONE;
      long leastFall = 1;
      for (int v = 0; v < size; v++) {
        long fall = side * entry(basic, v);
        if (fall > 0 && (least == NONE || -gain(v) * leastFall < -gain(least) * fall)) {
          least = v;
          leastFall = fall;
        }
      }
      return least;
    }

    /** Of the OUTER ones whose FACTOR in a BASIC is below 0 that with the smallest GAIN / FACTOR. */
    int cheapestToEnter(int basic) {
      return firstToRise(basic, -1);
    }

    void exchange(int leaving, int entering) {
      if (!isBasic(leaving) || !isOuter(entering)) {
        return;
      }
      int line = lines[leaving];
      int column = columns[entering];
      long pivot = cells[line][column];
      if (pivot == 0 || bottom == 0) {
        return;
      }
      for (int i = 0; i <= WISH; i++) {
        if (i != line) {
          clearFrom(i, line, column);
        }
      }
      cells[line][column] = bottom;
      bottom = pivot;
      if (bottom < 0) {
        turnSigns();
      }
      lines[leaving] = NONE;
      columns[leaving] = column;
      lines[entering] = line;
      columns[entering] = NONE;
    }

    private void clearFrom(int target, int line, int column) {
      long pivot = cells[line][column];
      long times = cells[target][column];
      for (int k = 0; k <= NUMBER; k++) {
        if (k == column) {
          cells[target][k] = -times;
        } else if (bottom != 0) {
          // every cell is a determinant of what was told, so this division leaves no rest
          cells[target][k] = (cells[target][k] * pivot - times * cells[line][k]) / bottom;
        }
      }
    }

    private void turnSigns() {
      bottom = -bottom;
      for (int i = 0; i <= WISH; i++) {
        for (int k = 0; k <= NUMBER; k++) {
          cells[i][k] = -cells[i][k];
        }
      }
    }
  }

  /** Which sets of BASICS were left since TO START, each with the STEPS made when it was there last. */
  private static final class Trail {
    // that many sets of 3 OUTER ones of 15 VARIABLES there are at most
    private static final int MOST_SETS = 455;
    private int count = 0;
    private int[] sets = new int[8];
    private int[] times = new int[8];

    void forget() {
      count = 0;
    }

    private int placeOf(int set) {
      for (int i = 0; i < count && i < sets.length; i++) {
        if (sets[i] == set) {
          return i;
        }
      }
      return NONE;
    }

    int lastOf(int set) {
      int place = placeOf(set);
      return place < 0 || place >= times.length ? NONE : times[place];
    }

    void note(int set, int time) {
      int place = placeOf(set);
      if (place == NONE) {
        if (count >= MOST_SETS) {
          return;
        }
        if (count >= sets.length || count >= times.length) {
          sets = Arrays.copyOf(sets, 2 * count + 1);
          times = Arrays.copyOf(times, 2 * count + 1);
        }
        place = count;
        count++;
      }
      if (place >= 0 && place < sets.length && place < times.length) {
        sets[place] = set;
        times[place] = time;
      }
    }
  }

  /**
   * Bounds in slots of their own, and the CORNERS of what keeps them, in ORDER. An UNKNOWN that is
   * not there is held at 0 by its slot alone, so there are always three.
   */
  private static final class Region {
    private static final int FIRST_BOUND = MOST_UNKNOWNS;
    private static final int FIRST_TOP = FIRST_BOUND + MOST_BOUNDS;
    private static final int SUM = FIRST_TOP + MOST_UNKNOWNS;
    private static final int SLOTS = SUM + 1;
    private static final int WIDE = MOST_UNKNOWNS + 1;
    private static final int BOTTOM = MOST_UNKNOWNS;
    // 12 planes leave 20 corners at most
    private static final int MOST_CORNERS = 32;
    int count = 0;
    private final boolean[] isThere = new boolean[SLOTS];
    private final long[] factors = new long[SLOTS * MOST_UNKNOWNS];
    private final int[] kinds = new int[SLOTS];
    private final long[] rights = new long[SLOTS];
    private final long[] point = new long[WIDE];
    private final long[] found = new long[MOST_CORNERS * WIDE];

    /** Takes a set of the bounds that were told; for rays with 0 for each right and the sum 1. */
    void load(Told told, int set, boolean isForRays) {
      for (int k = 0; k < MOST_UNKNOWNS; k++) {
        fill(k, NO_LESS, 0);
        factors[k * MOST_UNKNOWNS + k] = 1;
        isThere[FIRST_TOP + k] = false;
      }
      for (int bound = 0; bound < MOST_BOUNDS; bound++) {
        int slot = FIRST_BOUND + bound;
        fill(slot, told.kindOf(bound), isForRays ? 0 : told.rightOf(bound));
        for (int k = 0; k < MOST_UNKNOWNS; k++) {
          factors[slot * MOST_UNKNOWNS + k] = told.factorOf(bound, k);
        }
        isThere[slot] = (set >> bound & 1) == 1;
      }
      fill(SUM, THE_SAME, 1);
      for (int k = 0; k < MOST_UNKNOWNS; k++) {
        factors[SUM * MOST_UNKNOWNS + k] = k < told.width ? 1 : 0;
      }
      isThere[SUM] = isForRays;
    }

    private void fill(int slot, int kind, long right) {
      if (isSlot(slot)) {
        isThere[slot] = true;
        kinds[slot] = kind;
        rights[slot] = right;
      }
    }

    void limitBound(int bound, int right) {
      if (bound >= 0 && bound < MOST_BOUNDS) {
        rights[FIRST_BOUND + bound] = right;
      }
    }

    /** Holds an UNKNOWN from low to high; below 0 means that there is no high. */
    void limitUnknown(int unknown, long low, long high) {
      if (unknown < 0 || unknown >= MOST_UNKNOWNS) {
        return;
      }
      rights[unknown] = low;
      if (high >= 0) {
        int slot = FIRST_TOP + unknown;
        fill(slot, NO_MORE, high);
        factors[slot * MOST_UNKNOWNS + unknown] = 1;
      }
    }

    void find() {
      count = 0;
      for (int i = 0; i < SLOTS; i++) {
        for (int j = i + 1; isThere[i] && j < SLOTS; j++) {
          for (int k = j + 1; isThere[j] && k < SLOTS; k++) {
            if (isThere[k] && solve(i, j, k) && isKept()) {
              keep();
            }
          }
        }
      }
    }

    private static boolean isSlot(int slot) {
      return slot >= 0 && slot < SLOTS;
    }

    /** One number of the vector that is upright on two planes. */
    private long upright(int one, int other, int unknown) {
      if (!isSlot(one) || !isSlot(other) || unknown < 0 || unknown >= MOST_UNKNOWNS) {
        return 0;
      }
      int next = (unknown + 1) % MOST_UNKNOWNS;
      int last = (unknown + 2) % MOST_UNKNOWNS;
      int a = one * MOST_UNKNOWNS;
      int b = other * MOST_UNKNOWNS;
      return factors[a + next] * factors[b + last] - factors[a + last] * factors[b + next];
    }

    /** Puts the only point on three planes, in lowest terms; false if there is none. */
    private boolean solve(int i, int j, int k) {
      if (!isSlot(i) || !isSlot(j) || !isSlot(k)) {
        return false;
      }
      long volume = 0;
      for (int u = 0; u < MOST_UNKNOWNS; u++) {
        volume += factors[i * MOST_UNKNOWNS + u] * upright(j, k, u);
      }
      if (volume == 0) {
        return false;
      }
      long sign = volume < 0 ? -1 : 1;
      long common = Math.abs(volume);
      point[BOTTOM] = common;
      for (int u = 0; u < MOST_UNKNOWNS; u++) {
        point[u] = sign * (rights[i] * upright(j, k, u) + rights[j] * upright(k, i, u)
            + rights[k] * upright(i, j, u));
        common = commonDivisor(common, point[u]);
      }
      for (int u = 0; u < WIDE && common > 1; u++) {
        point[u] /= common;
      }
      return true;
    }

    private boolean isKept() {
      for (int slot = 0; slot < SLOTS; slot++) {
        if (isThere[slot]) {
          long left = 0;
          for (int u = 0; u < MOST_UNKNOWNS; u++) {
            left += factors[slot * MOST_UNKNOWNS + u] * point[u];
          }
          if (!holds(left, kinds[slot], rights[slot] * point[BOTTOM])) {
            return false;
          }
        }
      }
      return true;
    }

    private static boolean holds(long left, int kind, long right) {
      if (kind == NO_MORE) {
        return left <= right;
      }
      return kind == NO_LESS ? left >= right : left == right;
    }

    /** Puts the point among those that were found, at its place in ORDER, if it is new. */
    private void keep() {
      int place = 0;
      for (int i = 0; i < count; i++) {
        int order = compareToPoint(i);
        if (order == 0) {
          return;
        }
        if (order < 0) {
          place = i + 1;
        }
      }
      if (count < 0 || count >= MOST_CORNERS || place > count) {
        return;
      }
      System.arraycopy(found, place * WIDE, found, (place + 1) * WIDE, (count - place) * WIDE);
      System.arraycopy(point, 0, found, place * WIDE, WIDE);
      count++;
    }

    private int compareToPoint(int nth) {
      if (nth < 0 || nth >= MOST_CORNERS) {
        return 0;
      }
      int at = nth * WIDE;
      for (int u = 0; u < MOST_UNKNOWNS; u++) {
        int order = Long.compare(found[at + u] * point[BOTTOM], point[u] * found[at + BOTTOM]);
        if (order != 0) {
          return order;
        }
      }
      return 0;
    }

    /** The top of a number of a CORNER, over its bottom. */
    long coordinate(int nth, int unknown) {
      boolean isFound = nth >= 0 && nth < count && nth < MOST_CORNERS;
      return isFound && unknown >= 0 && unknown < MOST_UNKNOWNS ? found[nth * WIDE + unknown] : 0;
    }

    long bottomOf(int nth) {
      boolean isFound = nth >= 0 && nth < count && nth < MOST_CORNERS;
      return isFound ? found[nth * WIDE + BOTTOM] : 1;
    }

    /** The top of the VALUE of a CORNER, over its bottom. */
    long worth(Told told, int nth) {
      long sum = 0;
      for (int u = 0; u < MOST_UNKNOWNS; u++) {
        sum += told.wanted(u) * coordinate(nth, u);
      }
      return sum;
    }

    boolean hasRising(Told told) {
      for (int i = 0; i < count; i++) {
        if (worth(told, i) > 0) {
          return true;
        }
      }
      return false;
    }

    int compareWorth(Told told, int one, int other) {
      return Long.compare(worth(told, one) * bottomOf(other), worth(told, other) * bottomOf(one));
    }

    /** The first CORNER with the greatest VALUE, or NONE. */
    int firstBest(Told told) {
      int most = NONE;
      for (int i = 0; i < count; i++) {
        if (most == NONE || compareWorth(told, i, most) > 0) {
          most = i;
        }
      }
      return most;
    }

    /** Whether all that were found keep a bound with such a right. */
    boolean allKeep(Told told, int bound, long right) {
      for (int i = 0; i < count; i++) {
        long left = 0;
        for (int u = 0; u < MOST_UNKNOWNS; u++) {
          left += told.factorOf(bound, u) * coordinate(i, u);
        }
        if (!holds(left, told.kindOf(bound), right * bottomOf(i))) {
          return false;
        }
      }
      return true;
    }

    void put(StringBuilder text, int nth, int width) {
      for (int u = 0; u < width; u++) {
        if (u > 0) {
          text.append(' ');
        }
        putFraction(text, coordinate(nth, u), bottomOf(nth));
      }
    }
  }

  /** The search for whole numbers: a queue of TASKS, each with lows and highs of the UNKNOWNS. */
  private static final class Tasks {
    private static final int ROOM = (2 * MOST_TASKS + 1) * MOST_UNKNOWNS;
    int taken = 0;
    boolean isMany = false;
    boolean isFound = false;
    long foundWorth = 0;
    private int waiting = 0;
    private final long[] lows = new long[ROOM];
    private final long[] highs = new long[ROOM];
    private final long[] foundPoint = new long[MOST_UNKNOWNS];

    void search(Told told, Region region) {
      taken = 0;
      isFound = false;
      foundWorth = 0;
      waiting = 1;
      for (int u = 0; u < MOST_UNKNOWNS; u++) {
        lows[u] = 0;
        highs[u] = NONE;
      }
      for (int i = 0; i < MOST_TASKS && i < waiting; i++) {
        taken++;
        region.load(told, told.set, false);
        for (int u = 0; u < MOST_UNKNOWNS; u++) {
          int at = i * MOST_UNKNOWNS + u;
          region.limitUnknown(u, lows[at], highs[at]);
        }
        region.find();
        look(told, region, i);
      }
      isMany = waiting > taken;
    }

    private void look(Told told, Region region, int task) {
      int most = region.firstBest(told);
      if (most == NONE) {
        return;
      }
      long bottom = region.bottomOf(most);
      long worth = region.worth(told, most);
      if (bottom < 1 || isFound && worth <= foundWorth * bottom) {
        return;
      }
      for (int u = 0; u < MOST_UNKNOWNS; u++) {
        long top = region.coordinate(most, u);
        if (top % bottom != 0) {
          part(task, u, Math.floorDiv(top, bottom));
          return;
        }
      }
      isFound = true;
      foundWorth = worth / bottom;
      for (int u = 0; u < MOST_UNKNOWNS; u++) {
        foundPoint[u] = region.coordinate(most, u) / bottom;
      }
    }

    private void part(int task, int unknown, long below) {
      int under = copyTask(task) + unknown;
      int above = copyTask(task) + unknown;
      if (under >= 0 && under < ROOM && above >= 0 && above < ROOM) {
        highs[under] = below;
        lows[above] = below + 1;
      }
    }

    /** Puts a copy of a TASK behind all others; answers where it begins. */
    private int copyTask(int task) {
      int from = task * MOST_UNKNOWNS;
      int to = waiting * MOST_UNKNOWNS;
      if (from < 0 || to < from || to + MOST_UNKNOWNS > ROOM) {
        return -MOST_UNKNOWNS;
      }
      System.arraycopy(lows, from, lows, to, MOST_UNKNOWNS);
      System.arraycopy(highs, from, highs, to, MOST_UNKNOWNS);
      waiting++;
      return to;
    }

    void putFound(StringBuilder text, int width) {
      for (int u = 0; u < width && u < MOST_UNKNOWNS; u++) {
        if (u > 0) {
          text.append(' ');
        }
        putFraction(text, foundPoint[u], 1);
      }
    }
  }

  /**
   * The middle of the best CORNERS. Their bottoms have little in common, so the bottom of the sum
   * can be far beyond a long.
   */
  private static final class Mean {
    private final Big common = new Big();
    private final Big share = new Big();
    private final Big top = new Big();
    private final Big bottom = new Big();

    void put(StringBuilder text, Region region, Told told) {
      int most = region.firstBest(told);
      if (most == NONE) {
        return;
      }
      int many = gather(region, told, most);
      for (int u = 0; u < told.width; u++) {
        if (u > 0) {
          text.append(' ');
        }
        add(region, told, most, u);
        bottom.become(common);
        bottom.multiply(many);
        lower(region, many);
        top.put(text);
        if (!bottom.isOne()) {
          text.append('/');
          bottom.put(text);
        }
      }
    }

    /** Makes the smallest bottom that all of the best have in common; answers how many they are. */
    private int gather(Region region, Told told, int most) {
      int many = 0;
      common.set(1);
      for (int i = 0; i < region.count; i++) {
        if (region.compareWorth(told, i, most) == 0) {
          many++;
          long under = region.bottomOf(i);
          long shared = commonDivisor(under, common.rest(under));
          if (shared > 0) {
            common.multiply(under / shared);
          }
        }
      }
      return many;
    }

    private void add(Region region, Told told, int most, int unknown) {
      top.set(0);
      for (int i = 0; i < region.count; i++) {
        if (region.compareWorth(told, i, most) == 0) {
          share.become(common);
          share.divide(region.bottomOf(i));
          share.multiply(region.coordinate(i, unknown));
          top.add(share);
        }
      }
    }

    /** Brings top and bottom to lowest terms: what they share divides one of the parts of the bottom. */
    private void lower(Region region, int many) {
      lowerBy(many);
      for (int i = 0; i < region.count; i++) {
        lowerBy(region.bottomOf(i));
      }
    }

    private void lowerBy(long part) {
      for (int i = 0; i < 1000; i++) {
        long shared = commonDivisor(commonDivisor(part, top.rest(part)), bottom.rest(part));
        if (shared <= 1) {
          return;
        }
        top.divide(shared);
        bottom.divide(shared);
      }
    }
  }

  /** A number not below 0 of at most 99 digits, nine digits a place, the lowest place first. */
  private static final class Big {
    private static final int PLACES = 11;
    private static final long BASE = 1000000000L;
    private final long[] places = new long[PLACES];

    void set(long small) {
      Arrays.fill(places, 0);
      places[0] = small;
    }

    void become(Big other) {
      System.arraycopy(other.places, 0, places, 0, PLACES);
    }

    void multiply(long small) {
      long carry = 0;
      for (int i = 0; i < PLACES; i++) {
        long full = places[i] * small + carry;
        places[i] = full % BASE;
        carry = full / BASE;
      }
    }

    void add(Big other) {
      long carry = 0;
      for (int i = 0; i < PLACES; i++) {
        long full = places[i] + other.places[i] + carry;
        places[i] = full % BASE;
        carry = full / BASE;
      }
    }

    void divide(long small) {
      if (small < 1) {
        return;
      }
      long rest = 0;
      for (int i = PLACES - 1; i >= 0; i--) {
        long full = rest * BASE + places[i];
        places[i] = full / small;
        rest = full % small;
      }
    }

    long rest(long small) {
      if (small < 1) {
        return 0;
      }
      long rest = 0;
      for (int i = PLACES - 1; i >= 0; i--) {
        rest = (rest * BASE + places[i]) % small;
      }
      return rest;
    }

    boolean isOne() {
      for (int i = 1; i < PLACES; i++) {
        if (places[i] != 0) {
          return false;
        }
      }
      return places[0] == 1;
    }

    void put(StringBuilder text) {
      boolean hasBegun = false;
      for (int i = PLACES - 1; i >= 0; i--) {
        if (hasBegun) {
          putPlaceOfNine(text, places[i]);
        } else if (places[i] != 0 || i == 0) {
          putWhole(text, places[i]);
          hasBegun = true;
        }
      }
    }

    private static void putPlaceOfNine(StringBuilder text, long place) {
      long power = BASE / 10;
      for (int i = 0; i < 9 && power > 0; i++) {
        text.append((char) ('0' + place / power % 10));
        power /= 10;
      }
    }
  }
}
