import java.util.Map;
import java.util.TreeMap;

/** Thousands of runs of calls, each asked of the class and of the reference. */
public final class AgainstReference {
  private static long seed;
  private static int wrong = 0;
  private static final StringBuilder LOG = new StringBuilder();
  private static final Map<String, Integer> SEEN = new TreeMap<>();

  private static int upTo(int many) {
    seed = seed * 6364136223846793005L + 1442695040888963407L;
    return (int) Long.remainderUnsigned(seed >>> 24, many);
  }

  private static int between(int low, int high) {
    return low + upTo(high - low + 1);
  }

  /** What a call answers, or the exception that it throws. */
  private interface Call {
    Object ask();
  }

  private static String answerOf(Call call) {
    try {
      return String.valueOf(call.ask());
    } catch (RuntimeException e) {
      return "throws " + e.getClass().getSimpleName();
    }
  }

  private static String same(String name, Call tried, Call due) {
    String got = answerOf(tried);
    String want = answerOf(due);
    LOG.append(name).append(" -> ").append(got).append('\n');
    if (!got.equals(want)) {
      wrong++;
      if (wrong < 5) {
        System.out.println("-- run:\n" + LOG + "due is " + want);
      }
    }
    return got;
  }

  private static void seen(String what) {
    SEEN.merge(what, 1, Integer::sum);
  }

  /** How the numbers of a run are drawn. */
  private static int style;

  private static int drawFactor() {
    switch (style) {
      case 0:
        return between(-2, 2);
      case 1:
        return between(-9, 9);
      case 2:
        return upTo(3) == 0 ? 0 : between(-1, 9);
      case 3:
        return between(0, 9);
      default:
        return between(-4, 4);
    }
  }

  private static int drawRight() {
    switch (style) {
      case 0:
        return upTo(2) == 0 ? 0 : between(-2, 5);
      case 1:
        return between(-99, 99);
      case 2:
        return between(-9, 99);
      case 3:
        return between(1, 40);
      default:
        return 0;
    }
  }

  private static int drawKind() {
    if (style == 3) {
      return 0;
    }
    int k = upTo(8);
    return k < 5 ? 0 : k < 7 ? 1 : 2;
  }

  /** Bounds with 0 for each right (three factors and a kind each), and a wish, whose steps go round. */
  private static final int[][] ROUND = {
    {2, -5, 6, 0, 2, -3, 2, 2, -4, 4, 1, 0, 1, 1, -8, 2, 0, 0, 1, 0, 3, -2, 1},
    {2, -5, 6, 0, 2, -3, 2, 0, -6, 3, 8, 0, 1, 1, -6, 2, 0, 0, 1, 0, 4, -2, 1},
    {2, -5, 6, 0, 2, -3, 3, 0, -4, 2, 1, 0, 2, 2, -8, 2, 0, 0, 1, 0, 9, 0, 1},
    {1, -5, 6, 0, 2, -3, 2, 0, -4, 4, 1, 0, -9, -1, -2, 0, 1, 1, -6, 2, 0, 0, 1, 0, 7, -6, 3},
    {2, -6, 6, 0, 2, -3, 2, 0, -4, 4, -1, 0, 1, 3, -7, 2, 0, 0, 1, 2, 9, -2, 0},
    {2, -5, 6, 0, 2, -3, 2, 2, -4, 4, 1, 0, 1, 1, -6, 2, 0, 0, 1, 0, 7, 0, 1},
  };

  /** Bounds (five numbers each), and a wish, that take more than 20 steps. */
  private static final int[][] LONG = {
    {-4, -4, 7, 2, -9, 4, 9, -1, 1, 22, 2, 4, -1, 2, 28, 8, -7, 4, 1, -18, -8, 8, -5, 0, 6, 2, -9, 6, 1, 0, 0, -2, 6},
    {-3, -2, 8, 2, -4, -3, -6, 2, 0, -15, 7, 8, -5, 2, 38, 9, -5, 6, 1, -18, 6, -4, 5, 1, -1, 7, -7, 9, 1, 3, 4, 0, 2},
    {1, 1, 8, 2, 22, -2, 5, 9, 0, 28, -1, 7, 9, 0, 30, -5, -1, 8, 1, -20, -4, -1, 4, 1, -12, -8, -3, 7, 1, -9,
      -9, -4, -7},
    {2, -5, -1, 2, -1, -3, 4, 7, 1, 37, -2, 3, 4, 2, 34, -6, -2, 9, 0, 32, 6, -1, -8, 1, 3, 4, -2, -5, 2, 14, 6, 3, 6},
    {9, -9, 3, 2, 8, 5, -5, 7, 1, 36, 1, -1, 1, 2, 13, -9, -6, 4, 0, 13, 0, 5, -3, 1, 2, 1, -7, 4, 2, -16, 1, 0, 9},
    {4, 6, -5, 2, 24, 4, -1, -6, 0, -7, -6, 2, 9, 2, 29, 8, 1, 2, 1, 12, 9, 2, 5, 1, 31, 4, 1, 3, 1, 19, -1, -6, 8},
  };

  private static void tellLong(Simplexroom x, Reference y) {
    int[] r = LONG[upTo(LONG.length)].clone();
    int other = upTo(3 * 30);
    if (other < 30 && other % 5 != 3) {
      r[other] = Math.max(-9, Math.min(9, r[other] + between(-1, 1)));
    }
    for (int i = 0; i < 30; i += 5) {
      tellBound(x, y, r[i], r[i + 1], r[i + 2], r[i + 3], r[i + 4]);
    }
    same("wish", () -> x.wish(r[30], r[31], r[32]), () -> y.wish(r[30], r[31], r[32]));
  }

  private static void tellRound(Simplexroom x, Reference y) {
    int[] r = ROUND[upTo(ROUND.length)].clone();
    int other = upTo(3 * r.length);
    if (other < r.length && r[other] != 2) {
      r[other] = Math.max(-9, Math.min(9, r[other] + between(-1, 1)));
    }
    for (int i = 0; i + 3 < r.length; i += 4) {
      tellBound(x, y, r[i], r[i + 1], r[i + 2], Math.max(0, Math.min(2, r[i + 3])), 0);
    }
    int w = r.length - 3;
    same("wish(" + r[w] + ", " + r[w + 1] + ", " + r[w + 2] + ")", () -> x.wish(r[w], r[w + 1], r[w + 2]),
        () -> y.wish(r[w], r[w + 1], r[w + 2]));
  }

  /** Rules in a run: mostly one and the same, sometimes any. */
  private static void goRound(Simplexroom x, Reference y) {
    int often = upTo(3);
    for (int i = 0; i < 24; i++) {
      int rule = upTo(8) == 0 ? upTo(3) : often;
      int most = between(1, 9);
      if (upTo(4) == 0) {
        same("run(" + rule + ", " + most + ")", () -> x.run(rule, most), () -> y.run(rule, most));
      } else {
        same("step(" + rule + ")", () -> x.step(rule), () -> y.step(rule));
      }
      String ring = same("house(7)", () -> x.house(7), () -> y.house(7));
      seen("ring " + ring);
    }
  }

  private static void tellBound(Simplexroom x, Reference y) {
    int a = drawFactor();
    int b = drawFactor();
    int c = drawFactor();
    int kind = drawKind();
    int right = drawRight();
    if (upTo(30) == 0) {
      a = between(-11, 11);
      b = between(-11, 11);
      c = between(-11, 11);
      kind = between(-1, 3);
      right = between(-101, 101);
    }
    tellBound(x, y, a, b, c, kind, right);
  }

  private static void tellBound(Simplexroom x, Reference y, int a, int b, int c, int kind, int right) {
    same("bound(" + a + ", " + b + ", " + c + ", " + kind + ", " + right + ")",
        () -> x.bound(a, b, c, kind, right), () -> y.bound(a, b, c, kind, right));
  }

  private static void tellWish(Simplexroom x, Reference y) {
    int bad = upTo(25) == 0 ? 3 : 0;
    int a = upTo(5) == 0 ? 0 : between(-3 - 3 * bad, 9 + bad);
    int b = upTo(5) == 0 ? 0 : between(-3 - 3 * bad, 9 + bad);
    int c = upTo(5) == 0 ? 0 : between(-3 - 3 * bad, 9 + bad);
    same("wish(" + a + ", " + b + ", " + c + ")", () -> x.wish(a, b, c), () -> y.wish(a, b, c));
  }

  private static void tell(Simplexroom x, Reference y) {
    int which = upTo(10);
    if (which < 4) {
      tellBound(x, y);
    } else if (which < 6) {
      int bound = between(-1, 6);
      same("drop(" + bound + ")", () -> x.drop(bound), () -> y.drop(bound));
    } else if (which < 8) {
      int bound = between(-1, 6);
      int right = upTo(9) == 0 ? between(-101, 101) : drawRight();
      same("right(" + bound + ", " + right + ")", () -> x.right(bound, right), () -> y.right(bound, right));
    } else {
      tellWish(x, y);
    }
  }

  private static void search(Simplexroom x, Reference y) {
    int which = upTo(12);
    int rule = upTo(30) == 0 ? between(-1, 3) : upTo(3);
    if (which == 0) {
      same("start()", () -> x.start(), () -> y.start());
    } else if (which < 5) {
      int most = upTo(10) == 0 ? between(-1, 22) : between(1, 20);
      same("run(" + rule + ", " + most + ")", () -> x.run(rule, most), () -> y.run(rule, most));
    } else {
      seen("step " + same("step(" + rule + ")", () -> x.step(rule), () -> y.step(rule)));
    }
    String ring = same("house(7)", () -> x.house(7), () -> y.house(7));
    seen("ring " + ring);
    seen("answer " + y.answer);
  }

  private static void askTable(Simplexroom x, Reference y) {
    int n = y.width + y.rows().size();
    for (int what = -1; what <= 13; what++) {
      int w = what;
      same("house(" + w + ")", () -> x.house(w), () -> y.house(w));
    }
    same("value()", () -> x.value(), () -> y.value());
    for (int v = -2; v <= n + 1; v++) {
      int variable = v;
      same("number(" + v + ")", () -> x.number(variable), () -> y.number(variable));
      int o = between(-2, n);
      same("factor(" + v + ", " + o + ")", () -> x.factor(variable, o), () -> y.factor(variable, o));
      same("factor(-1, " + v + ")", () -> x.factor(-1, variable), () -> y.factor(-1, variable));
    }
    int bound = between(-1, 6);
    for (int what = -1; what <= 6; what++) {
      int w = what;
      same("ofBound(" + bound + ", " + w + ")", () -> x.ofBound(bound, w), () -> y.ofBound(bound, w));
    }
  }

  private static void askWitness(Simplexroom x, Reference y) {
    for (int r = -1; r <= y.rows().size(); r++) {
      int row = r;
      same("price(" + r + ")", () -> x.price(row), () -> y.price(row));
      same("multiplier(" + r + ")", () -> x.multiplier(row), () -> y.multiplier(row));
      same("rangeOf(" + r + ", false)", () -> x.rangeOf(row, false), () -> y.rangeOf(row, false));
      same("rangeOf(" + r + ", true)", () -> x.rangeOf(row, true), () -> y.rangeOf(row, true));
      String line = same("line(" + r + ")", () -> x.line(row), () -> y.line(row));
      if (line.contains(":")) {
        seen("line " + line.chars().filter(c -> c == ':').count() + " " + line.charAt(line.length() - 1));
      }
    }
    for (int k = -1; k <= y.width; k++) {
      int unknown = k;
      same("way(" + k + ")", () -> x.way(unknown), () -> y.way(unknown));
      same("wishRange(" + k + ", false)", () -> x.wishRange(unknown, false), () -> y.wishRange(unknown, false));
      same("wishRange(" + k + ", true)", () -> x.wishRange(unknown, true), () -> y.wishRange(unknown, true));
    }
  }

  private static void askRoom(Simplexroom x, Reference y) {
    same("middle()", () -> x.middle(), () -> y.middle());
    int some = upTo(6);
    same("corner(" + some + ")", () -> x.corner(some), () -> y.corner(some));
    int many = y.corners();
    seen("corners " + same("corners()", () -> x.corners(), () -> y.corners()));
    int nth = between(-1, many);
    same("corner(" + nth + ")", () -> x.corner(nth), () -> y.corner(nth));
    seen("rays " + same("rays()", () -> x.rays(), () -> y.rays()));
    int ray = between(-1, 3);
    same("ray(" + ray + ")", () -> x.ray(ray), () -> y.ray(ray));
    same("best(false)", () -> x.best(false), () -> y.best(false));
    same("best(true)", () -> x.best(true), () -> y.best(true));
    String middle = same("middle()", () -> x.middle(), () -> y.middle());
    seen("middle of " + middle.length() / 20 * 20 + " signs and more");
    int what = between(-1, 3);
    String whole = same("whole(" + what + ")", () -> x.whole(what), () -> y.whole(what));
    seen("whole(" + what + ") " + (what == 2 || whole.length() == 1 && "!?".contains(whole) ? whole : "other"));
    seen("needless " + Integer.bitCount(y.needless()));
    same("needless()", () -> x.needless(), () -> y.needless());
    seen("fewest " + Integer.bitCount(y.fewest()));
    same("fewest()", () -> x.fewest(), () -> y.fewest());
    int bound = between(-1, 6);
    int right = upTo(9) == 0 ? between(-101, 101) : drawRight();
    same("would(" + bound + ", " + right + ")", () -> x.would(bound, right), () -> y.would(bound, right));
    same("isSound()", () -> x.isSound(), () -> y.isSound());
    same("digest()", () -> x.digest(), () -> y.digest());
  }

  private static void oneRun(int number) {
    seed = number * 7919L + 17;
    upTo(2);
    LOG.setLength(0);
    LOG.append("run ").append(number).append('\n');
    Simplexroom x = new Simplexroom();
    Reference y = new Reference();
    style = number % 5;
    int width = upTo(4) == 0 ? between(0, 4) : 3;
    same("wide(" + width + ")", () -> x.wide(width), () -> y.wide(width));
    if (number % 25 == 4) {
      same("wide(3)", () -> x.wide(3), () -> y.wide(3));
      tellRound(x, y);
      goRound(x, y);
    } else if (number % 25 == 9) {
      same("wide(3)", () -> x.wide(3), () -> y.wide(3));
      tellLong(x, y);
      goRound(x, y);
      seen("long " + (y.steps > 20 ? "more than 20" : "20 or less"));
    } else {
      int many = style == 4 ? 6 : upTo(8);
      for (int i = 0; i < many; i++) {
        tellBound(x, y);
      }
      tellWish(x, y);
    }
    for (int round = 0; round < 3; round++) {
      for (int i = 0; i < 7; i++) {
        search(x, y);
      }
      askTable(x, y);
      askWitness(x, y);
      askRoom(x, y);
      if (upTo(2) == 0) {
        same("blank()", () -> x.blank(), () -> y.blank());
      }
      if (upTo(2) == 0) {
        same("knock()", () -> x.knock(), () -> y.knock());
      }
      for (int i = upTo(3); i >= 0; i--) {
        tell(x, y);
      }
    }
  }

  public static void main(String[] args) {
    int first = args.length > 0 ? Integer.parseInt(args[0]) : 0;
    int last = args.length > 1 ? Integer.parseInt(args[1]) : 1500;
    for (int number = first; number < last; number++) {
      oneRun(number);
    }
    if (args.length > 2) {
      SEEN.forEach((what, many) -> System.out.println(what + ": " + many));
    }
    System.exit(wrong == 0 ? 0 : 1);
  }
}
