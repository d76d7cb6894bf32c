import java.math.BigInteger;
import java.util.ArrayList;
import java.util.List;
import java.util.TreeMap;
import java.util.TreeSet;

/**
 * The document once more, word by word and without any cleverness: every table is solved anew from
 * its set of BASICS, every corner from all sets of equations, every end of a range from two tables.
 */
final class Reference {
  /** A sum of factors times unknowns, of a kind, and its right. */
  record Bound(int[] factors, int kind, long right) { }

  record Row(int[] factors, Frac right) { }

  int width = 2;
  TreeMap<Integer, Bound> bounds = new TreeMap<>();
  int[] wish = new int[3];
  int answer;
  int steps;
  int enters;
  int leaves;
  int blanks;
  int knocks;
  TreeSet<Integer> basics = new TreeSet<>();
  List<TreeSet<Integer>> before = new ArrayList<>();

  Reference() {
    toStart();
  }

  // ---- the room

  int wide(int w) {
    argument(w >= 1 && w <= 3);
    int old = width;
    width = w;
    bounds.clear();
    wish = new int[3];
    toStart();
    return old;
  }

  int bound(int a, int b, int c, int kind, int right) {
    factors(a, b, c);
    argument(kind >= 0 && kind <= 2);
    argument(right >= -99 && right <= 99);
    if (bounds.size() == 6) {
      throw new IllegalStateException();
    }
    int k = 0;
    while (bounds.containsKey(k)) {
      k++;
    }
    bounds.put(k, new Bound(cut(a, b, c), kind, right));
    toStart();
    return k;
  }

  int drop(int bound) {
    index(bounds.containsKey(bound));
    bounds.remove(bound);
    toStart();
    return bounds.size();
  }

  int right(int bound, int right) {
    index(bounds.containsKey(bound));
    argument(right >= -99 && right <= 99);
    Bound old = bounds.get(bound);
    bounds.put(bound, new Bound(old.factors, old.kind, right));
    toStart();
    return (int) old.right;
  }

  int wish(int a, int b, int c) {
    factors(a, b, c);
    int[] now = cut(a, b, c);
    int other = 0;
    for (int k = 0; k < 3; k++) {
      other += now[k] == wish[k] ? 0 : 1;
    }
    wish = now;
    toStart();
    return other;
  }

  private int[] cut(int a, int b, int c) {
    return new int[] {a, width > 1 ? b : 0, width > 2 ? c : 0};
  }

  private void factors(int... f) {
    for (int k = 0; k < width; k++) {
      argument(f[k] >= -9 && f[k] <= 9);
    }
  }

  static void argument(boolean isRight) {
    if (!isRight) {
      throw new IllegalArgumentException();
    }
  }

  static void index(boolean isThere) {
    if (!isThere) {
      throw new IndexOutOfBoundsException();
    }
  }

  void due(int wanted) {
    if (answer != wanted) {
      throw new IllegalStateException();
    }
  }

  // ---- rows and tables

  List<Row> rows() {
    List<Row> rows = new ArrayList<>();
    for (Bound b : bounds.values()) {
      int[] turned = {-b.factors[0], -b.factors[1], -b.factors[2]};
      if (b.kind == 0 || b.kind == 2) {
        rows.add(new Row(b.factors, Frac.of(b.right)));
      }
      if (b.kind == 1 || b.kind == 2) {
        rows.add(new Row(turned, Frac.of(-b.right)));
      }
    }
    return rows;
  }

  /** A table of a set of basics: [variable][outer variable], the number behind all variables. */
  static final class Tab {
    TreeMap<Integer, Frac> numbers = new TreeMap<>();
    TreeMap<Integer, TreeMap<Integer, Frac>> factors = new TreeMap<>();
    TreeMap<Integer, Frac> gains = new TreeMap<>();
    Frac value = Frac.ZERO;
  }

  Tab tab(TreeSet<Integer> set, List<Row> rows, int[] wish) {
    int m = rows.size();
    int n = width + m;
    Frac[][] a = new Frac[m][n + 1];
    for (int r = 0; r < m; r++) {
      for (int v = 0; v < n; v++) {
        a[r][v] = v < width ? Frac.of(rows.get(r).factors[v]) : Frac.of(v - width == r ? 1 : 0);
      }
      a[r][n] = rows.get(r).right;
    }
    int done = 0;
    List<Integer> basicOf = new ArrayList<>();
    for (int v : set) {
      int p = done;
      while (a[p][v].sign() == 0) {
        p++;
      }
      Frac[] swap = a[p];
      a[p] = a[done];
      a[done] = swap;
      Frac pivot = a[done][v];
      for (int k = 0; k <= n; k++) {
        a[done][k] = a[done][k].over(pivot);
      }
      for (int r = 0; r < m; r++) {
        Frac times = a[r][v];
        for (int k = 0; r != done && times.sign() != 0 && k <= n; k++) {
          a[r][k] = a[r][k].minus(times.times(a[done][k]));
        }
      }
      basicOf.add(v);
      done++;
    }
    Tab t = new Tab();
    for (int v = 0; v < n; v++) {
      if (!set.contains(v)) {
        t.gains.put(v, v < width ? Frac.of(wish[v]) : Frac.ZERO);
      }
    }
    for (int i = 0; i < m; i++) {
      int v = basicOf.get(i);
      Frac cost = v < width ? Frac.of(wish[v]) : Frac.ZERO;
      t.numbers.put(v, a[i][n]);
      t.value = t.value.plus(cost.times(a[i][n]));
      TreeMap<Integer, Frac> f = new TreeMap<>();
      for (int o : t.gains.keySet()) {
        f.put(o, a[i][o]);
        t.gains.put(o, t.gains.get(o).minus(cost.times(a[i][o])));
      }
      t.factors.put(v, f);
    }
    return t;
  }

  Tab now() {
    return tab(basics, rows(), wish);
  }

  // ---- the search

  void toStart() {
    basics = new TreeSet<>();
    for (int r = 0; r < rows().size(); r++) {
      basics.add(width + r);
    }
    before.clear();
    answer = 0;
    steps = 0;
    enters = -1;
    leaves = -1;
  }

  int start() {
    int old = steps;
    toStart();
    return old;
  }

  int step(int rule) {
    argument(rule >= 0 && rule <= 2);
    if (answer != 0) {
      return 0;
    }
    Tab t = now();
    for (int v : t.numbers.keySet()) {
      if (t.numbers.get(v).sign() < 0) {
        leaves = v;
        for (int o : t.gains.keySet()) {
          if (t.factors.get(v).get(o).sign() < 0) {
            enters = o;
            change();
            return 1;
          }
        }
        answer = 3;
        return 5;
      }
    }
    return stepUp(t, rule);
  }

  private int stepUp(Tab t, int rule) {
    enters = -1;
    Frac most = null;
    for (int o : t.gains.keySet()) {
      Frac gain = t.gains.get(o);
      if (gain.sign() > 0) {
        Frac limit = limit(t, o);
        // no growth comes near to this one, that stands for a growth without a limit
        Frac grows = limit == null ? Frac.of(1L << 40) : gain.times(limit);
        Frac worth = rule == 0 ? Frac.ONE : rule == 1 ? gain : grows;
        if (most == null || worth.compareTo(most) > 0) {
          most = worth;
          enters = o;
        }
      }
    }
    if (enters == -1) {
      answer = 1;
      return 3;
    }
    Frac limit = limit(t, enters);
    if (limit == null) {
      answer = 2;
      return 4;
    }
    for (int v : t.numbers.keySet()) {
      Frac f = t.factors.get(v).get(enters);
      if (f.sign() > 0 && t.numbers.get(v).over(f).equals(limit)) {
        leaves = v;
        break;
      }
    }
    change();
    return 2;
  }

  private static Frac limit(Tab t, int outer) {
    Frac least = null;
    for (int v : t.numbers.keySet()) {
      Frac f = t.factors.get(v).get(outer);
      if (f.sign() > 0) {
        Frac here = t.numbers.get(v).over(f);
        least = least == null || here.compareTo(least) < 0 ? here : least;
      }
    }
    return least;
  }

  private void change() {
    before.add(new TreeSet<>(basics));
    basics.remove(leaves);
    basics.add(enters);
    steps++;
  }

  int ring() {
    for (int ago = 1; ago <= before.size(); ago++) {
      if (before.get(before.size() - ago).equals(basics)) {
        return ago;
      }
    }
    return -1;
  }

  int run(int rule, int most) {
    argument(rule >= 0 && rule <= 2);
    argument(most >= 1 && most <= 20);
    int made = 0;
    while (made < most && answer == 0 && ring() == -1) {
      int old = steps;
      step(rule);
      made += steps - old;
    }
    return made;
  }

  int blank() {
    blanks++;
    return -9;
  }

  int knock() {
    return ++knocks;
  }

  // ---- what is asked

  int ofBound(int bound, int what) {
    index(bounds.containsKey(bound));
    argument(what >= 0 && what <= 5);
    Bound b = bounds.get(bound);
    int row = 0;
    for (int k : bounds.headMap(bound).keySet()) {
      row += bounds.get(k).kind == 2 ? 2 : 1;
    }
    return what < 3 ? b.factors[what] : what == 3 ? b.kind : what == 4 ? (int) b.right : row;
  }

  int house(int what) {
    argument(what >= 0 && what <= 12);
    int[] all = {width, bounds.size(), set(bounds.keySet()), rows().size(), answer, steps, set(basics),
        ring(), blanks, knocks, wish[0], wish[1], wish[2]};
    return all[what];
  }

  private static int set(Iterable<Integer> numbers) {
    int set = 0;
    for (int k : numbers) {
      set += 1 << k;
    }
    return set;
  }

  String value() {
    return now().value.toString();
  }

  private int variables() {
    return width + rows().size();
  }

  String number(int v) {
    index(v >= 0 && v < variables());
    Tab t = now();
    return t.numbers.containsKey(v) ? t.numbers.get(v).toString() : "0";
  }

  String factor(int basic, int outer) {
    index(basic >= -1 && basic < variables());
    index(outer >= 0 && outer < variables());
    Tab t = now();
    if (basic != -1 && !basics.contains(basic) || basics.contains(outer)) {
      return "";
    }
    return (basic == -1 ? t.gains.get(outer) : t.factors.get(basic).get(outer)).toString();
  }

  private void row(int row) {
    index(row >= 0 && row < rows().size());
  }

  private void unknown(int unknown) {
    index(unknown >= 0 && unknown < width);
  }

  String price(int row) {
    row(row);
    due(1);
    Frac gain = now().gains.get(width + row);
    return gain == null ? "0" : Frac.ZERO.minus(gain).toString();
  }

  String way(int unknown) {
    unknown(unknown);
    due(2);
    if (unknown == enters) {
      return "1";
    }
    return basics.contains(unknown) ? Frac.ZERO.minus(now().factors.get(unknown).get(enters)).toString() : "0";
  }

  String multiplier(int row) {
    row(row);
    due(3);
    int slack = width + row;
    if (slack == leaves) {
      return "1";
    }
    return basics.contains(slack) ? "0" : now().factors.get(leaves).get(slack).toString();
  }

  // ---- ranges and lines, each from two tables

  private List<Row> rowsWith(int row, Frac right) {
    List<Row> rows = rows();
    rows.set(row, new Row(rows.get(row).factors, right));
    return rows;
  }

  String rangeOf(int row, boolean isGreatest) {
    row(row);
    due(1);
    Frac right = rows().get(row).right;
    Frac end = null;
    Tab here = tab(basics, rowsWith(row, right), wish);
    Tab next = tab(basics, rowsWith(row, right.plus(Frac.ONE)), wish);
    for (int v : basics) {
      Frac slope = next.numbers.get(v).minus(here.numbers.get(v));
      if (isGreatest ? slope.sign() < 0 : slope.sign() > 0) {
        Frac at = right.minus(here.numbers.get(v).over(slope));
        if (end == null || (isGreatest ? at.compareTo(end) < 0 : at.compareTo(end) > 0)) {
          end = at;
        }
      }
    }
    return end == null ? "-" : end.toString();
  }

  String wishRange(int unknown, boolean isGreatest) {
    unknown(unknown);
    due(1);
    int[] more = wish.clone();
    more[unknown]++;
    Tab here = now();
    Tab next = tab(basics, rows(), more);
    Frac end = null;
    for (int o : here.gains.keySet()) {
      Frac slope = next.gains.get(o).minus(here.gains.get(o));
      if (isGreatest ? slope.sign() > 0 : slope.sign() < 0) {
        Frac at = Frac.of(wish[unknown]).minus(here.gains.get(o).over(slope));
        if (end == null || (isGreatest ? at.compareTo(end) < 0 : at.compareTo(end) > 0)) {
          end = at;
        }
      }
    }
    return end == null ? "-" : end.toString();
  }

  String line(int row) {
    row(row);
    due(1);
    TreeSet<Integer> set = new TreeSet<>(basics);
    Frac right = rows().get(row).right;
    StringBuilder text = new StringBuilder(right + ":" + value());
    for (int bend = 1; bend <= 6; bend++) {
      Tab here = tab(set, rowsWith(row, right), wish);
      Tab next = tab(set, rowsWith(row, right.plus(Frac.ONE)), wish);
      int falls = -1;
      Frac end = null;
      for (int v : set) {
        Frac slope = next.numbers.get(v).minus(here.numbers.get(v));
        if (slope.sign() < 0) {
          Frac at = right.minus(here.numbers.get(v).over(slope));
          if (end == null || at.compareTo(end) < 0) {
            end = at;
            falls = v;
          }
        }
      }
      if (end == null) {
        return text + " +";
      }
      right = end;
      Tab there = tab(set, rowsWith(row, right), wish);
      text.append(" " + right + ":" + there.value);
      if (bend == 6) {
        break;
      }
      int comes = -1;
      Frac least = null;
      for (int o : there.gains.keySet()) {
        Frac f = there.factors.get(falls).get(o);
        if (f.sign() < 0) {
          Frac ratio = there.gains.get(o).over(f);
          if (least == null || ratio.compareTo(least) < 0) {
            least = ratio;
            comes = o;
          }
        }
      }
      if (comes == -1) {
        return text + " !";
      }
      set.remove(falls);
      set.add(comes);
    }
    return text.toString();
  }

  // ---- corners and rays

  List<Frac[]> cornersOf(List<Bound> list) {
    List<Row> planes = new ArrayList<>();
    for (int k = 0; k < width; k++) {
      int[] unit = new int[3];
      unit[k] = 1;
      planes.add(new Row(unit, Frac.ZERO));
    }
    for (Bound b : list) {
      planes.add(new Row(b.factors, Frac.of(b.right)));
    }
    List<Frac[]> found = new ArrayList<>();
    pick(planes, list, new ArrayList<>(), 0, found);
    return found;
  }

  private void pick(List<Row> planes, List<Bound> list, List<Row> picked, int from, List<Frac[]> found) {
    if (picked.size() == width) {
      Frac[] x = solve(picked);
      if (x != null && keeps(x, list)) {
        insert(found, x);
      }
      return;
    }
    for (int i = from; i < planes.size(); i++) {
      picked.add(planes.get(i));
      pick(planes, list, picked, i + 1, found);
      picked.remove(picked.size() - 1);
    }
  }

  private Frac[] solve(List<Row> picked) {
    Frac[][] a = new Frac[width][width + 1];
    for (int r = 0; r < width; r++) {
      for (int k = 0; k < width; k++) {
        a[r][k] = Frac.of(picked.get(r).factors[k]);
      }
      a[r][width] = picked.get(r).right;
    }
    for (int c = 0; c < width; c++) {
      int p = c;
      while (p < width && a[p][c].sign() == 0) {
        p++;
      }
      if (p == width) {
        return null;
      }
      Frac[] swap = a[p];
      a[p] = a[c];
      a[c] = swap;
      for (int r = 0; r < width; r++) {
        if (r != c && a[r][c].sign() != 0) {
          Frac times = a[r][c].over(a[c][c]);
          for (int k = 0; k <= width; k++) {
            a[r][k] = a[r][k].minus(times.times(a[c][k]));
          }
        }
      }
    }
    Frac[] x = new Frac[width];
    for (int k = 0; k < width; k++) {
      x[k] = a[k][width].over(a[k][k]);
    }
    return x;
  }

  static Frac sum(int[] factors, Frac[] x) {
    Frac sum = Frac.ZERO;
    for (int k = 0; k < x.length; k++) {
      sum = sum.plus(Frac.of(factors[k]).times(x[k]));
    }
    return sum;
  }

  private static boolean keeps(Frac[] x, List<Bound> list) {
    for (Frac f : x) {
      if (f.sign() < 0) {
        return false;
      }
    }
    for (Bound b : list) {
      int order = sum(b.factors, x).compareTo(Frac.of(b.right));
      if (b.kind == 0 && order > 0 || b.kind == 1 && order < 0 || b.kind == 2 && order != 0) {
        return false;
      }
    }
    return true;
  }

  private static int compare(Frac[] x, Frac[] y) {
    for (int k = 0; k < x.length; k++) {
      if (x[k].compareTo(y[k]) != 0) {
        return x[k].compareTo(y[k]);
      }
    }
    return 0;
  }

  private static void insert(List<Frac[]> found, Frac[] x) {
    int at = 0;
    while (at < found.size() && compare(found.get(at), x) < 0) {
      at++;
    }
    if (at == found.size() || compare(found.get(at), x) != 0) {
      found.add(at, x);
    }
  }

  private List<Bound> all() {
    return new ArrayList<>(bounds.values());
  }

  List<Frac[]> raysOf(List<Bound> list) {
    List<Bound> cone = new ArrayList<>();
    for (Bound b : list) {
      cone.add(new Bound(b.factors, b.kind, 0));
    }
    cone.add(new Bound(new int[] {1, 1, 1}, 2, 1));
    return cornersOf(cone);
  }

  private static String text(Frac[] x) {
    StringBuilder text = new StringBuilder();
    for (Frac f : x) {
      text.append(text.length() == 0 ? "" : " ").append(f);
    }
    return text.toString();
  }

  int corners() {
    return cornersOf(all()).size();
  }

  String corner(int nth) {
    List<Frac[]> found = cornersOf(all());
    index(nth >= 0 && nth < found.size());
    return text(found.get(nth));
  }

  int rays() {
    return raysOf(all()).size();
  }

  String ray(int nth) {
    List<Frac[]> found = raysOf(all());
    index(nth >= 0 && nth < found.size());
    return text(found.get(nth));
  }

  private Frac most(List<Frac[]> found) {
    Frac most = null;
    for (Frac[] x : found) {
      Frac worth = sum(wish, x);
      most = most == null || worth.compareTo(most) > 0 ? worth : most;
    }
    return most;
  }

  int best(boolean isSet) {
    List<Frac[]> found = cornersOf(all());
    Frac most = most(found);
    int set = 0;
    int many = 0;
    for (int i = 0; i < found.size(); i++) {
      if (sum(wish, found.get(i)).equals(most)) {
        many++;
        set += i < 30 ? 1 << i : 0;
      }
    }
    return isSet ? set : many;
  }

  String middle() {
    List<Frac[]> found = cornersOf(all());
    Frac most = most(found);
    List<Frac[]> good = new ArrayList<>();
    for (Frac[] x : found) {
      if (sum(wish, x).equals(most)) {
        good.add(x);
      }
    }
    StringBuilder text = new StringBuilder();
    for (int k = 0; k < width && !good.isEmpty(); k++) {
      BigInteger top = BigInteger.ZERO;
      BigInteger bottom = BigInteger.ONE;
      for (Frac[] x : good) {
        BigInteger under = BigInteger.valueOf(x[k].bottom);
        top = top.multiply(under).add(BigInteger.valueOf(x[k].top).multiply(bottom));
        bottom = bottom.multiply(under);
      }
      bottom = bottom.multiply(BigInteger.valueOf(good.size()));
      BigInteger common = top.gcd(bottom);
      top = top.divide(common);
      bottom = bottom.divide(common);
      text.append(k == 0 ? "" : " ").append(top);
      text.append(bottom.equals(BigInteger.ONE) ? "" : "/" + bottom);
    }
    return text.toString();
  }

  // ---- whole numbers, bounds that matter

  String whole(int what) {
    argument(what >= 0 && what <= 2);
    if (rays() > 0) {
      throw new IllegalStateException();
    }
    List<List<Bound>> queue = new ArrayList<>();
    queue.add(all());
    int taken = 0;
    Frac worth = null;
    String point = "!";
    while (!queue.isEmpty() && taken < 20) {
      List<Bound> task = queue.remove(0);
      taken++;
      List<Frac[]> found = cornersOf(task);
      Frac most = most(found);
      if (most == null || worth != null && most.compareTo(worth) <= 0) {
        continue;
      }
      Frac[] first = null;
      for (Frac[] x : found) {
        first = first == null && sum(wish, x).equals(most) ? x : first;
      }
      int part = 0;
      while (part < width && first[part].isWhole()) {
        part++;
      }
      if (part == width) {
        worth = most;
        point = text(first);
        continue;
      }
      int[] unit = new int[3];
      unit[part] = 1;
      long below = Math.floorDiv(first[part].top, first[part].bottom);
      List<Bound> low = new ArrayList<>(task);
      low.add(new Bound(unit, 0, below));
      List<Bound> high = new ArrayList<>(task);
      high.add(new Bound(unit, 1, below + 1));
      queue.add(low);
      queue.add(high);
    }
    if (what == 2) {
      return "" + taken;
    }
    if (!queue.isEmpty()) {
      return "?";
    }
    return worth == null ? "!" : what == 0 ? worth.toString() : point;
  }

  private static boolean same(List<Frac[]> one, List<Frac[]> other) {
    boolean isSame = one.size() == other.size();
    for (int i = 0; isSame && i < one.size(); i++) {
      isSame = compare(one.get(i), other.get(i)) == 0;
    }
    return isSame;
  }

  int needless() {
    int set = 0;
    for (int k : bounds.keySet()) {
      List<Bound> others = all();
      others.remove(bounds.get(k));
      List<Frac[]> with = cornersOf(all());
      List<Frac[]> without = cornersOf(others);
      // a room that is not empty is what its corners and rays make, and has a corner
      if (same(with, without) && (with.isEmpty() || same(raysOf(all()), raysOf(others)))) {
        set += 1 << k;
      }
    }
    return set;
  }

  int fewest() {
    if (corners() > 0) {
      return 0;
    }
    int best = 0;
    for (int set = 63; set > 0; set--) {
      List<Bound> list = new ArrayList<>();
      for (int k : bounds.keySet()) {
        if ((set >> k & 1) == 1) {
          list.add(bounds.get(k));
        }
      }
      boolean isNone = list.size() == Integer.bitCount(set) && cornersOf(list).isEmpty();
      if (isNone && (best == 0 || Integer.bitCount(set) <= Integer.bitCount(best))) {
        best = set;
      }
    }
    return best;
  }

  String would(int bound, int right) {
    index(bounds.containsKey(bound));
    argument(right >= -99 && right <= 99);
    List<Bound> list = new ArrayList<>();
    for (int k : bounds.keySet()) {
      Bound b = bounds.get(k);
      list.add(k == bound ? new Bound(b.factors, b.kind, right) : b);
    }
    List<Frac[]> found = cornersOf(list);
    if (found.isEmpty()) {
      return "!";
    }
    for (Frac[] ray : raysOf(list)) {
      if (sum(wish, ray).sign() > 0) {
        return "+";
      }
    }
    return most(found).toString();
  }

  /** Every table of this reference is solved anew, so its witnesses hold by what was proved of them. */
  boolean isSound() {
    return true;
  }

  long digest() {
    List<Long> all = new ArrayList<>();
    for (int what = 0; what <= 12; what++) {
      all.add((long) house(what));
    }
    for (int k : bounds.keySet()) {
      all.add((long) k);
      for (int what = 0; what <= 5; what++) {
        all.add((long) ofBound(k, what));
      }
    }
    all.add((long) value().length());
    for (int v = 0; v < variables(); v++) {
      all.add((long) number(v).length());
    }
    for (int r = 0; r < rows().size(); r++) {
      if (answer == 1) {
        all.add((long) price(r).length());
        all.add((long) rangeOf(r, false).length());
        all.add((long) rangeOf(r, true).length());
      } else if (answer == 3) {
        all.add((long) multiplier(r).length());
      }
    }
    for (int k = 0; k < width; k++) {
      if (answer == 1) {
        all.add((long) wishRange(k, false).length());
        all.add((long) wishRange(k, true).length());
      } else if (answer == 2) {
        all.add((long) way(k).length());
      }
    }
    all.add((long) corners());
    if (corners() > 0) {
      all.add((long) corner(0).length());
    }
    all.add((long) rays());
    all.add((long) best(false));
    all.add((long) best(true));
    all.add((long) middle().length());
    all.add(isSound() ? 1L : 0L);
    long d = 6841;
    for (long v : all) {
      d = d * 31 + v;
    }
    return d;
  }
}
