import java.util.ArrayList;
import java.util.List;

/**
 * The boundaries that the document names for arguments, one test for each sentence: the last one
 * inside, the first one outside, what is not looked at, which exception goes ahead, and that a call
 * which throws changes nothing.
 */
public final class EdgeTellTests {
  private static final Class<?> ARGUMENT = IllegalArgumentException.class;
  private static final Class<?> STATE = IllegalStateException.class;
  private static final Class<?> INDEX = IndexOutOfBoundsException.class;
  private static final int LEAST = Integer.MIN_VALUE;
  private static final int GREATEST = Integer.MAX_VALUE;

  private EdgeTellTests() { }

  private static void due(String what, Object got, Object want) {
    Check.due(what, got, want);
  }

  private static void fails(String what, Simplexroom x, Class<?> kind, Check.Call call) {
    Check.fails(what, x, kind, call);
  }

  private static int[] of(int... numbers) {
    return numbers;
  }

  /** 3 a + 2 b to 12, a + 3 b to 9, a + b wished, one step made. */
  private static Simplexroom two() {
    Simplexroom x = Check.room(2, of(1, 1, 0), of(3, 2, 0, 0, 12), of(1, 3, 0, 0, 9));
    x.step(0);
    return x;
  }

  private static Simplexroom best() {
    Simplexroom x = two();
    x.run(0, 20);
    return x;
  }

  private static Simplexroom ever() {
    Simplexroom x = Check.room(2, of(1, 1, 0), of(1, -1, 0, 0, 1));
    x.run(0, 20);
    return x;
  }

  private static Simplexroom none() {
    Simplexroom x = Check.room(2, of(1, 1, 0), of(1, 1, 0, 1, 5), of(1, 2, 0, 0, 4));
    x.run(0, 20);
    return x;
  }

  /** Six equalities of three unknowns: twelve rows, fifteen variables. */
  private static Simplexroom full() {
    Simplexroom x = new Simplexroom();
    x.wide(3);
    for (int i = 0; i < 6; i++) {
      x.bound(1, i, -i, 2, i);
    }
    return x;
  }

  // ---- "WIDTH (1 to 3; 2 at first)"; "if width is not 1 to 3"

  private static void widthIsTwoAtFirst() {
    due("2 at first", new Simplexroom().house(0), 2);
    due("2 before", new Simplexroom().wide(1), 2);
  }

  private static void widthIsOneToThree() {
    int before = 2;
    Simplexroom x = new Simplexroom();
    for (int width : of(1, 2, 3, 2, 1, 3, 3, 1, 1)) {
      due("that before wide(" + width + ")", x.wide(width), before);
      due("width is", x.house(0), width);
      before = width;
    }
    for (int bad : of(0, 4, -1, LEAST, GREATEST)) {
      fails("wide(" + bad + ")", x, ARGUMENT, () -> x.wide(bad));
      Simplexroom y = best();
      fails("wide(" + bad + ") with an answer", y, ARGUMENT, () -> y.wide(bad));
    }
  }

  private static void anyWidthClearsAll() {
    for (int width = 1; width <= 3; width++) {
      Simplexroom x = Check.room(3, of(9, -9, 1), of(1, 1, 1, 0, 3));
      x.run(0, 20);
      x.wide(width);
      for (int what : of(1, 2, 3, 4, 5, 6, 10, 11, 12)) {
        due("wide(" + width + ") clears house(" + what + ")", x.house(what), 0);
      }
      due("nor is a ring left", x.house(7), -1);
      due("the first number is free", x.bound(1, 1, 1, 0, 1), 0);
    }
  }

  // ---- "FACTORS (-9 to 9, one for each UNKNOWN)"; "if a FACTOR that is looked at is not -9 to 9"

  private static void factorsOfBounds() {
    for (int width = 1; width <= 3; width++) {
      for (int place = 0; place < 3; place++) {
        for (int factor : of(-9, 9, -8, 8, 0)) {
          int[] f = new int[3];
          f[place] = factor;
          Simplexroom x = new Simplexroom();
          x.wide(width);
          due("a bound is told", x.bound(f[0], f[1], f[2], 0, 7), 0);
          due("factor " + place + " of " + width, x.ofBound(0, place), place < width ? factor : 0);
        }
        for (int factor : of(-10, 10, LEAST, GREATEST)) {
          int[] f = new int[3];
          f[place] = factor;
          Simplexroom x = Check.room(width, of(1, 2, 3), of(1, 1, 1, 0, 5));
          if (place < width) {
            fails("factor " + factor + " at " + place + " of " + width, x, ARGUMENT,
                () -> x.bound(f[0], f[1], f[2], 0, 7));
          } else {
            due("not looked at", x.bound(f[0], f[1], f[2], 0, 7), 1);
            due("0 of an unknown that is not there", x.ofBound(1, place), 0);
          }
        }
      }
    }
  }

  private static void factorsOfTheWish() {
    for (int width = 1; width <= 3; width++) {
      for (int place = 0; place < 3; place++) {
        for (int factor : of(-9, 9, -8, 8)) {
          int[] f = new int[3];
          f[place] = factor;
          Simplexroom x = new Simplexroom();
          x.wide(width);
          due("others", x.wish(f[0], f[1], f[2]), place < width ? 1 : 0);
          due("wish " + place + " of " + width, x.house(10 + place), place < width ? factor : 0);
        }
        for (int factor : of(-10, 10, LEAST, GREATEST)) {
          int[] f = new int[3];
          f[place] = factor;
          Simplexroom x = Check.room(width, of(1, 2, 3), of(1, 1, 1, 0, 5));
          x.run(0, 1);
          if (place < width) {
            fails("wish " + factor + " at " + place + " of " + width, x, ARGUMENT,
                () -> x.wish(f[0], f[1], f[2]));
          } else {
            due("not looked at, the others go to 0", x.wish(f[0], f[1], f[2]), width);
            due("0 of an unknown that is not there", x.house(10 + place), 0);
          }
        }
      }
    }
  }

  private static void theWishIsZeroAtFirst() {
    Simplexroom x = new Simplexroom();
    for (int width : of(2, 1, 3)) {
      x.wide(width);
      due("at first", x.house(10) + "," + x.house(11) + "," + x.house(12), "0,0,0");
      due("none is other", x.wish(0, 0, 0), 0);
      due("all are other", x.wish(1, 1, 1), width);
      due("none is other again", x.wish(1, 1, 1), 0);
    }
  }

  // ---- "by its KIND, 0 .., 1 .., 2 .."; "kind not 0 to 2"

  private static void kindIsZeroToTwo() {
    Simplexroom x = best();
    for (int bad : of(-1, 3, LEAST, GREATEST)) {
      fails("kind " + bad, x, ARGUMENT, () -> x.bound(1, 1, 1, bad, 1));
    }
    for (int kind = 0; kind <= 2; kind++) {
      int number = x.bound(1, 1, 1, kind, 1);
      due("kind", x.ofBound(number, 3), kind);
    }
  }

  // ---- "its RIGHT (-99 to 99)"; "right not -99 to 99"

  private static void rightOfANewBound() {
    Simplexroom x = best();
    for (int bad : of(-100, 100, LEAST, GREATEST)) {
      for (int kind = 0; kind <= 2; kind++) {
        int k = kind;
        fails("right " + bad, x, ARGUMENT, () -> x.bound(1, 1, 1, k, bad));
      }
    }
    for (int right : of(-99, 99, -98, 98)) {
      int number = x.bound(1, 1, 1, 1, right);
      due("right", x.ofBound(number, 4), right);
    }
  }

  private static void rightOfABoundThatIsThere() {
    Simplexroom x = best();
    int before = 9;
    for (int right : of(-99, 99, 0, 99, -99, -98, 98)) {
      due("right before " + right, x.right(1, right), before);
      due("right now", x.ofBound(1, 4), right);
      before = right;
    }
    x.run(0, 20);
    for (int bad : of(-100, 100, LEAST, GREATEST)) {
      fails("right " + bad, x, ARGUMENT, () -> x.right(1, bad));
    }
  }

  private static void rightOfWould() {
    Simplexroom x = Check.room(1, of(1, 0, 0), of(1, 0, 0, 0, 5));
    due("would 99", x.would(0, 99), "99");
    due("would 98", x.would(0, 98), "98");
    due("would 0", x.would(0, 0), "0");
    due("would -1", x.would(0, -1), "!");
    due("would -98", x.would(0, -98), "!");
    due("would -99", x.would(0, -99), "!");
    x.run(0, 20);
    for (int bad : of(-100, 100, LEAST, GREATEST)) {
      fails("would " + bad, x, ARGUMENT, () -> x.would(0, bad));
    }
    due("the bound stays", x.ofBound(0, 4), 5);
  }

  // ---- "At most 6 BOUNDS, numbered 0 to 5: a new one gets the smallest number that is free"

  private static void sixBoundsAtMost() {
    Simplexroom x = new Simplexroom();
    for (int i = 0; i < 6; i++) {
      due("number", x.bound(1, 1, 0, 0, 10 + i), i);
      due("how many", x.house(1), i + 1);
      due("their set", x.house(2), (1 << i + 1) - 1);
    }
    fails("a seventh", x, STATE, () -> x.bound(1, 1, 0, 0, 1));
    x.run(0, 20);
    fails("a seventh with an answer", x, STATE, () -> x.bound(0, 0, 0, 0, 0));
    for (int i = 5; i >= 0; i--) {
      due("one is left less", x.drop(i), 5);
      due("that number is free", x.bound(1, 1, 0, 0, 20), i);
      fails("a seventh again", x, STATE, () -> x.bound(1, 1, 0, 0, 1));
    }
  }

  private static void theSmallestFreeNumber() {
    Simplexroom x = full();
    x.drop(5);
    x.drop(2);
    x.drop(4);
    due("with gaps", x.house(2), 1 + 2 + 8);
    due("the smallest one", x.bound(1, 1, 1, 0, 1), 2);
    due("then the next", x.bound(1, 1, 1, 0, 2), 4);
    due("the last one", x.bound(1, 1, 1, 0, 3), 5);
    x.drop(0);
    due("0 too", x.bound(1, 1, 1, 0, 4), 0);
    due("each is what was told", x.ofBound(2, 4) * 1000 + x.ofBound(4, 4) * 100 + x.ofBound(5, 4) * 10
        + x.ofBound(0, 4), 1234);
  }

  private static void noSuchBound() {
    Simplexroom x = full();
    x.drop(3);
    x.run(0, 20);
    for (int bad : of(-1, 3, 6, 7, 31, 32, 33, 64, LEAST, GREATEST)) {
      fails("drop(" + bad + ")", x, INDEX, () -> x.drop(bad));
      fails("right(" + bad + ", 1)", x, INDEX, () -> x.right(bad, 1));
      fails("ofBound(" + bad + ", 1)", x, INDEX, () -> x.ofBound(bad, 1));
      fails("would(" + bad + ", 1)", x, INDEX, () -> x.would(bad, 1));
    }
    due("the first one is there", x.ofBound(0, 4), 0);
    due("the last one is there", x.ofBound(5, 4), 5);
    due("the last one goes", x.drop(5), 4);
    due("the first one goes", x.drop(0), 3);
    Simplexroom y = new Simplexroom();
    for (int bound = 0; bound < 6; bound++) {
      int b = bound;
      fails("drop(" + b + ") of an empty room", y, INDEX, () -> y.drop(b));
      fails("right(" + b + ", 0) of an empty room", y, INDEX, () -> y.right(b, 0));
      fails("ofBound(" + b + ", 0) of an empty room", y, INDEX, () -> y.ofBound(b, 0));
      fails("would(" + b + ", 0) of an empty room", y, INDEX, () -> y.would(b, 0));
    }
  }

  // ---- "rule is not 0 to 2", "most not 1 to 20"

  private static List<Simplexroom> inEachState() {
    List<Simplexroom> all = new ArrayList<>();
    all.add(new Simplexroom());
    all.add(two());
    all.add(best());
    all.add(ever());
    all.add(none());
    all.add(full());
    return all;
  }

  private static void ruleIsZeroToTwo() {
    for (Simplexroom x : inEachState()) {
      for (int bad : of(-1, 3, LEAST, GREATEST)) {
        fails("step(" + bad + ")", x, ARGUMENT, () -> x.step(bad));
        fails("run(" + bad + ", 1)", x, ARGUMENT, () -> x.run(bad, 1));
        fails("run(" + bad + ", 0)", x, ARGUMENT, () -> x.run(bad, 0));
      }
    }
    for (int rule = 0; rule <= 2; rule++) {
      due("step(" + rule + ")", two().step(rule), 2);
      due("run(" + rule + ", 20)", two().run(rule, 20), 1);
    }
  }

  private static void mostIsOneToTwenty() {
    for (Simplexroom x : inEachState()) {
      for (int rule = 0; rule <= 2; rule++) {
        for (int bad : of(0, 21, -1, LEAST, GREATEST)) {
          int r = rule;
          fails("run(" + r + ", " + bad + ")", x, ARGUMENT, () -> x.run(r, bad));
        }
      }
    }
    Simplexroom x = two();
    x.start();
    due("one at most", x.run(0, 1), 1);
    due("it was made", x.house(5), 1);
    x.start();
    due("twenty at most", x.run(0, 20), 2);
    due("with the answer", x.house(4), 1);
  }

  // ---- "what is not 0 to 5", "what is not 0 to 12", "what is not 0 to 2"

  private static void whatOfABound() {
    Simplexroom x = Check.room(3, of(0, 0, 0), of(0, 0, 1, 2, 0), of(7, -8, 9, 1, -6));
    int[] want = {7, -8, 9, 1, -6, 2};
    for (int what = 0; what <= 5; what++) {
      due("ofBound(1, " + what + ")", x.ofBound(1, what), want[what]);
    }
    for (int bad : of(-1, 6, LEAST, GREATEST)) {
      fails("ofBound(1, " + bad + ")", x, ARGUMENT, () -> x.ofBound(1, bad));
    }
  }

  private static void whatOfTheHouse() {
    for (Simplexroom x : inEachState()) {
      due("house(0)", x.house(0) >= 1 && x.house(0) <= 3, true);
      due("house(12)", x.house(12), 0);
      for (int bad : of(-1, 13, LEAST, GREATEST)) {
        fails("house(" + bad + ")", x, ARGUMENT, () -> x.house(bad));
      }
    }
  }

  private static void whatOfWholeNumbers() {
    Simplexroom x = best();
    due("whole(0)", x.whole(0), "4");
    due("whole(1)", x.whole(1), "2 2");
    due("whole(2)", x.whole(2), "9");
    for (int bad : of(-1, 3, LEAST, GREATEST)) {
      fails("whole(" + bad + ")", x, ARGUMENT, () -> x.whole(bad));
    }
  }

  // ---- "if there is no such VARIABLE", "ROW", "UNKNOWN", "CORNER", "RAY"

  private static void noSuchVariable() {
    for (Simplexroom x : inEachState()) {
      int many = x.house(0) + x.house(3);
      for (int bad : of(-1, many, many + 1, 15, 32, LEAST, GREATEST)) {
        fails("number(" + bad + ")", x, INDEX, () -> x.number(bad));
        fails("factor(-1, " + bad + ")", x, INDEX, () -> x.factor(-1, bad));
        fails("factor(0, " + bad + ")", x, INDEX, () -> x.factor(0, bad));
        if (bad != -1) {
          fails("factor(" + bad + ", 0)", x, INDEX, () -> x.factor(bad, 0));
        }
        fails("factor(" + bad + ", -1)", x, INDEX, () -> x.factor(bad, -1));
      }
      fails("factor(-2, 0)", x, INDEX, () -> x.factor(-2, 0));
    }
    due("the last of 15", full().number(14), "-5");
    due("its factor", full().factor(14, 2), "5");
    due("the last of 2", new Simplexroom().number(1), "0");
  }

  private static void noSuchRow() {
    Simplexroom b = best();
    Simplexroom n = none();
    for (int bad : of(-1, 2, 3, 12, 32, LEAST, GREATEST)) {
      fails("price(" + bad + ")", b, INDEX, () -> b.price(bad));
      fails("rangeOf(" + bad + ", false)", b, INDEX, () -> b.rangeOf(bad, false));
      fails("rangeOf(" + bad + ", true)", b, INDEX, () -> b.rangeOf(bad, true));
      fails("line(" + bad + ")", b, INDEX, () -> b.line(bad));
      fails("multiplier(" + bad + ")", n, INDEX, () -> n.multiplier(bad));
    }
    due("the last price", b.price(1), "1/7");
    due("the last range", b.rangeOf(1, false), "4");
    due("the last line", b.line(1), "9:33/7 18:6 +");
    due("the last multiplier", n.multiplier(1), "1");
    Simplexroom x = new Simplexroom();
    x.run(0, 1);
    due("best without rows", x.house(4), 1);
    fails("price without rows", x, INDEX, () -> x.price(0));
    fails("range without rows", x, INDEX, () -> x.rangeOf(0, true));
    fails("line without rows", x, INDEX, () -> x.line(0));
    Simplexroom twelve = new Simplexroom();
    for (int i = 0; i < 6; i++) {
      twelve.bound(1, i, 0, 2, 4);
    }
    twelve.run(0, 20);
    due("best with twelve rows", twelve.house(4) * 100 + twelve.house(3), 112);
    due("the twelfth price", twelve.price(11), "0");
    fails("a thirteenth price", twelve, INDEX, () -> twelve.price(12));
  }

  private static void noSuchUnknown() {
    for (int width = 1; width <= 3; width++) {
      Simplexroom b = Check.room(width, of(-1, -1, -1));
      b.run(0, 1);
      Simplexroom e = Check.room(width, of(1, 1, 1));
      e.run(0, 1);
      for (int bad : of(-1, width, 3, 32, LEAST, GREATEST)) {
        fails("wishRange(" + bad + ", true)", b, INDEX, () -> b.wishRange(bad, true));
        fails("wishRange(" + bad + ", false)", b, INDEX, () -> b.wishRange(bad, false));
        fails("way(" + bad + ")", e, INDEX, () -> e.way(bad));
      }
      due("the last range", b.wishRange(width - 1, true), "0");
      due("the last way", e.way(width - 1), width == 1 ? "1" : "0");
    }
  }

  private static void noSuchCornerOrRay() {
    for (Simplexroom x : inEachState()) {
      int corners = x.corners();
      for (int bad : of(-1, corners, corners + 1, 32, 33, LEAST, GREATEST)) {
        fails("corner(" + bad + ")", x, INDEX, () -> x.corner(bad));
      }
      int rays = x.rays();
      for (int bad : of(-1, rays, rays + 1, 32, 33, LEAST, GREATEST)) {
        fails("ray(" + bad + ")", x, INDEX, () -> x.ray(bad));
      }
      for (int nth = 0; nth < corners; nth++) {
        due("a corner", x.corner(nth).isEmpty(), false);
      }
      for (int nth = 0; nth < rays; nth++) {
        due("a ray", x.ray(nth).isEmpty(), false);
      }
    }
  }

  // ---- "if the ANSWER is not BEST", "EVER", "NONE"; "if there is a RAY"

  private static void onlyWithTheAnswerBest() {
    for (Simplexroom x : inEachState()) {
      if (x.house(4) != 1 && x.house(3) > 0) {
        fails("price", x, STATE, () -> x.price(0));
        fails("rangeOf", x, STATE, () -> x.rangeOf(0, true));
        fails("line", x, STATE, () -> x.line(0));
      }
      if (x.house(4) != 1) {
        fails("wishRange", x, STATE, () -> x.wishRange(0, false));
      }
    }
    due("with it", best().price(0) + best().rangeOf(0, true) + best().wishRange(0, true) + best().line(1),
        "2/7273/29:33/7 18:6 +");
  }

  private static void onlyWithTheAnswerEver() {
    for (Simplexroom x : inEachState()) {
      if (x.house(4) != 2) {
        fails("way", x, STATE, () -> x.way(0));
      }
    }
    due("with it", ever().way(0) + ever().way(1), "11");
  }

  private static void onlyWithTheAnswerNone() {
    for (Simplexroom x : inEachState()) {
      if (x.house(4) != 3 && x.house(3) > 0) {
        fails("multiplier", x, STATE, () -> x.multiplier(0));
      }
    }
    due("with it", none().multiplier(0) + none().multiplier(1), "11");
  }

  private static void onlyWithoutARay() {
    for (Simplexroom x : List.of(new Simplexroom(), ever(), Check.room(1, of(0, 0, 0)),
        Check.room(3, of(-1, -1, -1), of(1, 1, 0, 0, 5)))) {
      for (int what = 0; what <= 2; what++) {
        int w = what;
        fails("whole(" + w + ") with a ray", x, STATE, () -> x.whole(w));
      }
    }
    Simplexroom x = Check.room(3, of(1, 1, 1), of(1, 1, 0, 0, 5), of(0, 0, 1, 0, 5));
    due("without one", x.whole(0), "10");
  }

  // ---- "If several exceptions apply, the one that is named first is thrown."

  private static void theFirstOneIsThrown() {
    Simplexroom six = full();
    fails("a factor ahead of six", six, ARGUMENT, () -> six.bound(0, 0, 10, 0, 0));
    fails("kind ahead of six", six, ARGUMENT, () -> six.bound(0, 0, 0, -1, 0));
    fails("right ahead of six", six, ARGUMENT, () -> six.bound(0, 0, 0, 0, -100));
    fails("all ahead of six", six, ARGUMENT, () -> six.bound(10, 10, 10, 3, 100));
    Simplexroom x = two();
    fails("right", x, INDEX, () -> x.right(2, 100));
    fails("ofBound", x, INDEX, () -> x.ofBound(2, 6));
    fails("would", x, INDEX, () -> x.would(2, -100));
    fails("price", x, INDEX, () -> x.price(2));
    fails("way", x, INDEX, () -> x.way(2));
    fails("multiplier", x, INDEX, () -> x.multiplier(2));
    fails("rangeOf", x, INDEX, () -> x.rangeOf(2, true));
    fails("wishRange", x, INDEX, () -> x.wishRange(2, true));
    fails("line", x, INDEX, () -> x.line(2));
    Simplexroom ray = ever();
    fails("whole", ray, ARGUMENT, () -> ray.whole(3));
    Simplexroom empty = new Simplexroom();
    fails("price of no row", empty, INDEX, () -> empty.price(0));
    fails("multiplier of no row", empty, INDEX, () -> empty.multiplier(0));
    fails("line of no row", empty, INDEX, () -> empty.line(0));
    fails("rangeOf of no row", empty, INDEX, () -> empty.rangeOf(0, false));
  }

  // ---- "A method that throws an exception changes nothing."

  private static Check.Call[] refused(Simplexroom x) {
    return new Check.Call[] {() -> x.wide(0), () -> x.wide(4), () -> x.bound(10, 0, 0, 0, 0),
      () -> x.bound(0, 0, 0, 3, 0), () -> x.bound(0, 0, 0, 0, 100), () -> x.drop(6), () -> x.right(6, 0),
      () -> x.right(0, 100), () -> x.wish(1, -10, 0), () -> x.step(3), () -> x.run(3, 1), () -> x.run(0, 21),
      () -> x.run(1, 0), () -> x.ofBound(0, 6), () -> x.house(13), () -> x.number(-1), () -> x.factor(-2, 0),
      () -> x.price(-1), () -> x.way(3), () -> x.multiplier(12), () -> x.rangeOf(-1, true),
      () -> x.wishRange(3, true), () -> x.line(-1), () -> x.corner(-1), () -> x.ray(-1), () -> x.whole(3),
      () -> x.would(0, 100)};
  }

  private static void refuse(Simplexroom x) {
    for (Check.Call call : refused(x)) {
      boolean isRefused = false;
      try {
        call.ask();
      } catch (IllegalArgumentException | IllegalStateException | IndexOutOfBoundsException e) {
        isRefused = true;
      }
      due("refused", isRefused, true);
    }
  }

  /** Bounds at 0 alone, whose steps go round if the ninth is by rule 1. */
  private static Simplexroom round() {
    return Check.room(3, of(7, 0, 1), of(2, -5, 6, 0, 0), of(2, -3, 2, 2, 0), of(-4, 4, 1, 0, 0),
        of(1, 1, -6, 2, 0), of(0, 0, 1, 0, 0));
  }

  private static void aCallThatThrowsChangesNothing() {
    Simplexroom x = round();
    Simplexroom y = round();
    for (int rule : of(0, 0, 2, 0, 1, 2, 2, 0, 1, 0, 2)) {
      refuse(x);
      due("the same step", x.step(rule), y.step(rule));
      due("the same ring", x.house(7), y.house(7));
      due("the same room", Check.whole(x), Check.whole(y));
    }
    due("there was a ring", x.house(7), 8);
    refuse(x);
    due("still a ring", x.house(7), 8);
    due("as many steps", x.start(), 11);
  }

  private static void anAskingCallChangesNothing() {
    Simplexroom x = round();
    Simplexroom y = round();
    for (int rule : of(0, 0, 2, 0, 1, 2, 2, 0, 1)) {
      due("lengths", (x.value() + x.number(1) + x.factor(-1, 0) + x.corner(0) + x.middle()).isEmpty(), false);
      x.rays();
      x.best(true);
      x.needless();
      x.fewest();
      x.would(0, 5);
      x.isSound();
      x.digest();
      due("the same step", x.step(rule), y.step(rule));
      due("the same ring", x.house(7), y.house(7));
      due("the same room", Check.whole(x), Check.whole(y));
    }
    due("eight ago", x.house(7), 8);
    Simplexroom b = best();
    String before = Check.whole(b);
    for (int row = 0; row < 2; row++) {
      b.line(row);
      b.price(row);
      b.rangeOf(row, true);
      b.whole(row);
      b.would(row, 1);
    }
    due("behind asking", Check.whole(b), before);
  }

  // ---- "at most 512 calls"

  private static void theLastOf512Calls() {
    Simplexroom x = new Simplexroom();
    for (int i = 1; i <= 500; i++) {
      due("knock", x.knock(), i);
    }
    x.bound(3, 2, 0, 0, 12);
    x.bound(1, 3, 0, 0, 9);
    x.wish(1, 1, 0);
    for (int i = 0; i < 8; i++) {
      x.blank();
    }
    due("the 512th call", x.run(0, 20), 2);
    Simplexroom y = new Simplexroom();
    for (int i = 1; i <= 511; i++) {
      due("blank", y.blank(), -9);
    }
    due("as often", y.house(8), 511);
  }

  public static void main(String[] args) {
    widthIsTwoAtFirst();
    widthIsOneToThree();
    anyWidthClearsAll();
    factorsOfBounds();
    factorsOfTheWish();
    theWishIsZeroAtFirst();
    kindIsZeroToTwo();
    rightOfANewBound();
    rightOfABoundThatIsThere();
    rightOfWould();
    sixBoundsAtMost();
    theSmallestFreeNumber();
    noSuchBound();
    ruleIsZeroToTwo();
    mostIsOneToTwenty();
    whatOfABound();
    whatOfTheHouse();
    whatOfWholeNumbers();
    noSuchVariable();
    noSuchRow();
    noSuchUnknown();
    noSuchCornerOrRay();
    onlyWithTheAnswerBest();
    onlyWithTheAnswerEver();
    onlyWithTheAnswerNone();
    onlyWithoutARay();
    theFirstOneIsThrown();
    aCallThatThrowsChangesNothing();
    anAskingCallChangesNothing();
    theLastOf512Calls();
    Check.end();
  }
}
