/** Promises 14 to 34: the table, witnesses, ranges, lines, corners, whole numbers, what matters. */
public final class AskTests {
  private static final Class<?> ARGUMENT = IllegalArgumentException.class;
  private static final Class<?> STATE = IllegalStateException.class;
  private static final Class<?> INDEX = IndexOutOfBoundsException.class;

  private AskTests() { }

  private static void due(String what, Object got, Object want) {
    Check.due(what, got, want);
  }

  private static Simplexroom room(int width, int[] wish, int[]... bounds) {
    Simplexroom x = new Simplexroom();
    x.wide(width);
    for (int[] b : bounds) {
      x.bound(b[0], b[1], b[2], b[3], b[4]);
    }
    x.wish(wish[0], wish[1], wish[2]);
    return x;
  }

  private static int[] of(int... numbers) {
    return numbers;
  }

  /** 3 a + 2 b to 12, a + 3 b to 9, a + b wished: best at 18/7, 15/7. */
  private static Simplexroom two() {
    return room(2, of(1, 1, 0), of(3, 2, 0, 0, 12), of(1, 3, 0, 0, 9));
  }

  private static Simplexroom twoBest() {
    Simplexroom x = two();
    x.run(0, 20);
    return x;
  }

  /** a - b to 1, b - a to 1: open along 1, 1. */
  private static Simplexroom strip(int a, int b) {
    return room(2, of(a, b, 0), of(1, -1, 0, 0, 1), of(-1, 1, 0, 0, 1));
  }

  /** a + b at least 5, a + 2 b at most 4. */
  private static Simplexroom none() {
    Simplexroom x = room(2, of(1, 1, 0), of(1, 1, 0, 1, 5), of(1, 2, 0, 0, 4));
    x.run(0, 20);
    return x;
  }

  private static void promises14To16() {
    Simplexroom x = two();
    due("14: at first", x.value(), "0");
    x.step(0);
    due("14: a step", x.value(), "4");
    due("15: a", x.number(0), "4");
    due("15: an outer one", x.number(1), "0");
    due("15: outer slack", x.number(2), "0");
    due("15: slack", x.number(3), "5");
    // a = 4 - 1/3 s - 2/3 b; s' = 5 + 1/3 s - 7/3 b; wish = 4 - 1/3 s + 1/3 b
    due("16: of s in a", x.factor(0, 2), "1/3");
    due("16: of b in a", x.factor(0, 1), "2/3");
    due("16: of s in s'", x.factor(3, 2), "-1/3");
    due("16: of b in s'", x.factor(3, 1), "7/3");
    due("16: gain of s", x.factor(-1, 2), "-1/3");
    due("16: gain of b", x.factor(-1, 1), "1/3");
    due("16: of a basic", x.factor(-1, 0), "");
    due("16: of a basic in a basic", x.factor(0, 3), "");
    due("16: in an outer one", x.factor(1, 2), "");
    due("16: in itself", x.factor(0, 0), "");
    due("16: of an outer one in itself", x.factor(1, 1), "");
    x.step(0);
    due("14: best", x.value(), "33/7");
    due("15: best a", x.number(0), "18/7");
    due("15: best b", x.number(1), "15/7");
    for (int bad : new int[] {-1, 4, Integer.MAX_VALUE, Integer.MIN_VALUE}) {
      Check.fails("15: " + bad, x, INDEX, () -> x.number(bad));
      Check.fails("16: outer " + bad, x, INDEX, () -> x.factor(-1, bad));
    }
    Check.fails("16: basic -2", x, INDEX, () -> x.factor(-2, 2));
    Check.fails("16: basic 4", x, INDEX, () -> x.factor(4, 2));
    Simplexroom y = room(1, of(-2, 0, 0), of(2, 0, 0, 1, 5));
    y.step(0);
    due("14: below 0", y.value(), "-5");
    due("15: half", y.number(0), "5/2");
    y.start();
    due("15: below 0", y.number(1), "-5");
    due("16: below 0", y.factor(1, 0), "-2");
    due("16: gain below 0", y.factor(-1, 0), "-2");
  }

  private static void promise17() {
    Simplexroom x = twoBest();
    due("17: first", x.price(0), "2/7");
    due("17: second", x.price(1), "1/7");
    x.bound(1, 0, 0, 0, 50);
    Check.fails("17: no answer", x, STATE, () -> x.price(0));
    x.run(0, 20);
    due("17: a slack that is a basic", x.price(2), "0");
    Check.fails("17: no row", x, INDEX, () -> x.price(3));
    Check.fails("17: -1", x, INDEX, () -> x.price(-1));
    Simplexroom y = none();
    Check.fails("17: none", y, STATE, () -> y.price(0));
    Check.fails("17: the row goes ahead", y, INDEX, () -> y.price(2));
    Simplexroom z = strip(1, 1);
    z.run(0, 20);
    Check.fails("17: ever", z, STATE, () -> z.price(0));
  }

  private static void promise18() {
    Simplexroom x = strip(2, -1);
    x.run(1, 20);
    due("18: the one that would enter", x.way(1), "1");
    due("18: a basic", x.way(0), "1");
    Check.fails("18: no unknown", x, INDEX, () -> x.way(2));
    Check.fails("18: -1", x, INDEX, () -> x.way(-1));
    Simplexroom y = room(3, of(0, 0, 4), of(2, 0, -1, 0, 3), of(0, -1, -9, 0, 1));
    y.run(0, 20);
    due("18: others stay", y.way(0) + y.way(1) + y.way(2), "001");
    Simplexroom z = room(3, of(6, 0, 1), of(2, 0, -1, 0, 3));
    z.run(0, 20);
    due("18: half", z.way(0) + " " + z.way(1) + " " + z.way(2), "1/2 0 1");
    // a slack enters: a falls to 1 - b + s, b cannot grow
    Simplexroom s = room(2, of(1, 0, 0), of(1, 1, 0, 1, 1));
    s.run(0, 20);
    due("18: by a slack", s.house(4) + s.way(0) + s.way(1), "210");
    Simplexroom best = twoBest();
    Check.fails("18: best", best, STATE, () -> best.way(0));
    Check.fails("18: the unknown goes ahead", best, INDEX, () -> best.way(2));
    Simplexroom open = strip(1, 1);
    Check.fails("18: none yet", open, STATE, () -> open.way(0));
  }

  private static void promise19() {
    Simplexroom x = none();
    due("19: steps", x.house(5), 1);
    // a = 5 - b + s after the step; then s' = -1 - b - s stays below 0
    due("19: an outer slack", x.multiplier(0), "1");
    due("19: the slack that would leave", x.multiplier(1), "1");
    x.bound(1, 0, 0, 0, 9);
    Check.fails("19: no answer", x, STATE, () -> x.multiplier(0));
    x.run(0, 20);
    due("19: another basic", x.multiplier(2), "0");
    Check.fails("19: no row", x, INDEX, () -> x.multiplier(3));
    Check.fails("19: -1", x, INDEX, () -> x.multiplier(-1));
    Simplexroom y = twoBest();
    Check.fails("19: best", y, STATE, () -> y.multiplier(0));
    Check.fails("19: the row goes ahead", y, INDEX, () -> y.multiplier(2));
    Simplexroom z = room(2, of(0, 0, 0), of(2, 3, 0, 1, 7), of(3, 1, 0, 0, 2), of(1, 2, 0, 0, 3));
    z.run(0, 20);
    due("19: fractions", z.multiplier(0) + " " + z.multiplier(1) + " " + z.multiplier(2), "1/7 3/7 0");
  }

  private static void promise20() {
    Simplexroom x = twoBest();
    due("20: least", x.rangeOf(0, false), "6");
    due("20: greatest", x.rangeOf(0, true), "27");
    due("20: least of the second", x.rangeOf(1, false), "4");
    due("20: greatest of the second", x.rangeOf(1, true), "18");
    x.bound(1, 0, 0, 0, 50);
    Check.fails("20: no answer", x, STATE, () -> x.rangeOf(0, true));
    x.run(0, 20);
    due("20: of a basic slack", x.rangeOf(2, false), "18/7");
    due("20: without end", x.rangeOf(2, true), "-");
    Check.fails("20: no row", x, INDEX, () -> x.rangeOf(3, true));
    Check.fails("20: -1", x, INDEX, () -> x.rangeOf(-1, false));
    Simplexroom y = strip(1, -1);
    y.run(0, 20);
    due("20: no greatest", y.rangeOf(0, true), "-");
    due("20: least is 0", y.rangeOf(0, false), "0");
    // a row that is turned has its right turned
    Simplexroom z = room(1, of(-3, 0, 0), of(2, 0, 0, 1, 5));
    z.run(0, 20);
    due("20: turned, least", z.rangeOf(0, false), "-");
    due("20: turned, greatest", z.rangeOf(0, true), "0");
    Simplexroom n = none();
    Check.fails("20: none", n, STATE, () -> n.rangeOf(0, true));
    Check.fails("20: the row goes ahead", n, INDEX, () -> n.rangeOf(2, true));
  }

  private static void promise21() {
    Simplexroom x = twoBest();
    due("21: least of a", x.wishRange(0, false), "1/3");
    due("21: greatest of a", x.wishRange(0, true), "3/2");
    due("21: least of b", x.wishRange(1, false), "2/3");
    due("21: greatest of b", x.wishRange(1, true), "3");
    Check.fails("21: no unknown", x, INDEX, () -> x.wishRange(2, true));
    Check.fails("21: -1", x, INDEX, () -> x.wishRange(-1, true));
    Simplexroom y = room(2, of(5, 1, 0), of(2, 1, 0, 0, 6));
    Check.fails("21: none yet", y, STATE, () -> y.wishRange(0, true));
    Check.fails("21: the unknown goes ahead", y, INDEX, () -> y.wishRange(2, true));
    y.run(0, 20);
    due("21: outer, least", y.wishRange(1, false), "-");
    due("21: outer, greatest", y.wishRange(1, true), "5/2");
    due("21: basic, least", y.wishRange(0, false), "2");
    due("21: basic, greatest", y.wishRange(0, true), "-");
    Simplexroom n = none();
    Check.fails("21: none", n, STATE, () -> n.wishRange(0, true));
  }

  private static void promise22() {
    Simplexroom x = twoBest();
    due("22: a bend", x.line(0), "12:33/7 27:9 +");
    due("22: of the second", x.line(1), "9:33/7 18:6 +");
    due("22: again", x.line(0), "12:33/7 27:9 +");
    due("22: the table stays", x.value(), "33/7");
    x.bound(1, 0, 0, 0, 50);
    Check.fails("22: no answer", x, STATE, () -> x.line(0));
    x.run(0, 20);
    due("22: no bend", x.line(2), "50:33/7 +");
    Check.fails("22: no row", x, INDEX, () -> x.line(3));
    Check.fails("22: -1", x, INDEX, () -> x.line(-1));
    Simplexroom n = none();
    Check.fails("22: none", n, STATE, () -> n.line(0));
    Check.fails("22: the row goes ahead", n, INDEX, () -> n.line(2));
    Simplexroom six = room(3, of(2, 3, 2), of(-4, 1, 9, 0, 26), of(9, 9, 5, 0, 8), of(-3, 8, 9, 0, 38),
        of(9, 8, -2, 0, 38));
    six.run(0, 20);
    due("22: six bends, two at one right", six.line(1), "8:16/5 130/9:52/9 1822/63:664/63 171/4:57/4"
        + " 171/4:57/4 31368/437:9266/437 5476/73:1560/73");
    Simplexroom also = room(3, of(3, 4, 0), of(2, 2, -1, 0, 20), of(0, 2, 0, 0, 22), of(3, 4, 1, 0, 14),
        of(5, -1, 1, 0, 26), of(-1, 2, 3, 0, 46));
    also.run(0, 20);
    due("22: six bends", also.line(2), "14:14 78/5:78/5 34:34 40:40 46:44 64:274/5 3362/51:2834/51");
    Simplexroom t = room(2, of(2, 1, 0), of(1, 1, 0, 2, 4), of(1, 0, 0, 0, 3));
    t.run(0, 20);
    due("22: of an equality as it is", t.line(0), "4:7 +");
    due("22: of an equality turned", t.line(1), "-4:7 +");
  }

  private static void promises23To26() {
    Simplexroom x = two();
    due("23: corners", x.corners(), 4);
    due("24: 0", x.corner(0), "0 0");
    due("24: 1", x.corner(1), "0 3");
    due("24: 2", x.corner(2), "18/7 15/7");
    due("24: 3", x.corner(3), "4 0");
    due("24: on a new object", two().corner(3), "4 0");
    due("26: on a new object", new Simplexroom().ray(1), "1 0");
    due("27: on a new object", two().best(true), 4);
    due("28: on a new object", two().middle(), "18/7 15/7");
    due("25: no rays", x.rays(), 0);
    due("24: behind another question", x.corner(2), "18/7 15/7");
    Check.fails("24: 4", x, INDEX, () -> x.corner(4));
    Check.fails("24: -1", x, INDEX, () -> x.corner(-1));
    due("25: no rays", x.rays(), 0);
    Check.fails("26: 0", x, INDEX, () -> x.ray(0));
    Simplexroom y = room(3, of(0, 0, 0), of(1, -2, 0, 0, 6));
    due("23: open", y.corners(), 2);
    due("24: open", y.corner(1), "6 0 0");
    due("25: open", y.rays(), 3);
    due("26: 0", y.ray(0), "0 0 1");
    due("26: 1", y.ray(1), "0 1 0");
    due("26: 2", y.ray(2), "2/3 1/3 0");
    Check.fails("26: 3", y, INDEX, () -> y.ray(3));
    Check.fails("26: -1", y, INDEX, () -> y.ray(-1));
    Simplexroom n = none();
    due("23: none", n.corners(), 0);
    Check.fails("24: none", n, INDEX, () -> n.corner(0));
    Simplexroom e = room(2, of(0, 0, 0), of(0, 1, 0, 1, 5), of(0, 1, 0, 0, 4));
    due("23: empty", e.corners(), 0);
    due("25: rays of an empty room", e.rays(), 1);
    due("26: of an empty room", e.ray(0), "1 0");
    Simplexroom s = room(3, of(0, 0, 0), of(1, 1, 1, 2, 1), of(2, 2, 2, 1, 2), of(1, 0, 0, 0, 1));
    due("23: one corner of many planes", s.corners(), 3);
    due("24: in order", s.corner(0) + "," + s.corner(1) + "," + s.corner(2), "0 0 1,0 1 0,1 0 0");
    Simplexroom m = room(3, of(0, 0, 0), of(4, 4, 2, 0, 52), of(1, 3, 2, 0, 42), of(4, 5, 0, 0, 54),
        of(3, -1, -1, 0, 3), of(0, 2, 0, 0, 19), of(4, -1, 1, 0, 23));
    due("23: as many as can be", m.corners(), 14);
    due("24: the last", m.corner(13), "84/17 73/17 128/17");
    due("27: all of them", m.best(true), 16383);
    due("28: the middle of all", m.middle(), "2393885/1392776 1484981/298452 730721/109956");
    Simplexroom one = room(1, of(0, 0, 0));
    due("23: of one unknown", one.corners(), 1);
    due("26: of one unknown", one.ray(0), "1");
  }

  private static void promises27And28() {
    Simplexroom x = two();
    due("27: one", x.best(false), 1);
    due("27: its set", x.best(true), 4);
    due("28: it", x.middle(), "18/7 15/7");
    x.wish(6, 4, 0);
    due("27: two", x.best(false), 2);
    due("27: their set", x.best(true), 12);
    due("28: between", x.middle(), "23/7 15/14");
    x.wish(0, 0, 0);
    due("27: all", x.best(false), 4);
    due("28: of all", x.middle(), "23/14 9/7");
    x.wish(-1, -1, 0);
    due("27: at 0", x.best(true), 1);
    due("28: at 0", x.middle(), "0 0");
    Simplexroom y = strip(3, 1);
    due("27: by corners though it grows for ever", y.best(true), 4);
    due("28: likewise", y.middle(), "1 0");
    Simplexroom n = none();
    due("27: none", n.best(false), 0);
    due("27: no set", n.best(true), 0);
    due("28: none", n.middle(), "");
    Simplexroom big = room(3, of(0, 0, 0), of(-9, 8, 9, 0, 95), of(8, -7, 9, 0, 84), of(5, -2, -9, 0, -13),
        of(8, 9, -2, 0, 43), of(-9, -7, 1, 0, -24), of(-5, 9, -8, 0, -7));
    due("27: twelve", big.best(true), 4095);
    due("28: nothing is rounded", big.middle(), "101990939092402998093257579/44328950837197565130157488"
        + " 629506727556865475147726123/243929716108363279030428660"
        + " 1087901606035799142600257140761907/193043050171565398665332876380080");
  }

  private static void promise29() {
    Simplexroom x = two();
    // 18/7, 15/7 is parted at a: a to 2 gives 2, 7/3, a from 3 gives 3, 3/2
    due("29: value", x.whole(0), "4");
    due("29: point", x.whole(1), "2 2");
    due("29: tasks", x.whole(2), "9");
    x.run(0, 20);
    due("29: the table stays", x.value(), "33/7");
    Check.fails("29: -1", x, ARGUMENT, () -> x.whole(-1));
    Check.fails("29: 3", x, ARGUMENT, () -> x.whole(3));
    Simplexroom y = strip(1, 1);
    Check.fails("29: a ray", y, STATE, () -> y.whole(0));
    Check.fails("29: a ray, how many", y, STATE, () -> y.whole(2));
    Check.fails("29: what goes ahead", y, ARGUMENT, () -> y.whole(3));
    Simplexroom e = room(2, of(0, 0, 0), of(0, 1, 0, 1, 5), of(0, 1, 0, 0, 4));
    Check.fails("29: a ray of an empty room", e, STATE, () -> e.whole(0));
    Simplexroom n = none();
    due("29: none", n.whole(0) + n.whole(1) + n.whole(2), "!!1");
    Simplexroom half = room(1, of(1, 0, 0), of(2, 0, 0, 2, 3));
    due("29: no whole one", half.whole(0) + half.whole(1) + half.whole(2), "!!3");
    Simplexroom at = room(1, of(-1, 0, 0), of(2, 0, 0, 1, 3), of(1, 0, 0, 0, 9));
    due("29: below 0", at.whole(0) + " " + at.whole(1) + " " + at.whole(2), "-2 2 3");
    Simplexroom many = room(3, of(4, 6, 5), of(7, 9, 9, 0, 42), of(9, 3, 9, 0, 35), of(1, 4, 9, 0, 32),
        of(9, 9, 9, 0, 24), of(2, 2, 3, 0, 21));
    due("29: many", many.whole(0) + many.whole(1) + many.whole(2), "??20");
    Simplexroom last = room(3, of(7, 4, 7), of(0, 5, -1, 0, 14), of(4, 5, 1, 0, 33), of(2, 4, 2, 0, 53));
    due("29: 19 are not too many", last.whole(0) + ", " + last.whole(1) + ", " + last.whole(2), "182, 0 0 26, 19");
    Simplexroom first = room(2, of(1, 1, 0), of(1, 1, 0, 0, 3));
    due("29: the first corner with that value", first.whole(1), "0 3");
  }

  private static void promise30() {
    Simplexroom x = two();
    due("30: none", x.needless(), 0);
    x.bound(2, 2, 0, 0, 50);
    due("30: far off", x.needless(), 4);
    x.bound(3, 2, 0, 0, 12);
    due("30: each of two that are the same", x.needless(), 1 + 4 + 8);
    x.bound(-1, 0, 0, 0, 0);
    due("30: not below 0 anyway", x.needless(), 1 + 4 + 8 + 16);
    Simplexroom touch = room(2, of(0, 0, 0), of(1, 0, 0, 0, 3), of(0, 1, 0, 0, 3), of(1, 1, 0, 0, 6));
    due("30: at a corner alone", touch.needless(), 4);
    Simplexroom n = none();
    due("30: both make it empty", n.needless(), 0);
    n.bound(1, 0, 0, 0, 1);
    due("30: it is empty without it too", n.needless(), 4);
    Simplexroom ray = room(2, of(0, 0, 0), of(1, -1, 0, 0, 5));
    due("30: it shuts out a ray alone", ray.needless(), 0);
    Simplexroom same = room(2, of(0, 0, 0), of(1, 1, 0, 2, 4), of(1, 1, 0, 0, 4), of(1, 1, 0, 1, 3));
    due("30: behind an equality", same.needless(), 6);
    same.bound(2, 2, 0, 2, 8);
    due("30: two equalities", same.needless(), 15);
    Simplexroom edge = room(2, of(0, 0, 0), of(1, -1, 0, 1, 0), of(0, 1, 0, 1, 0));
    due("30: of kind 1", edge.needless(), 2);
  }

  private static void promise31() {
    due("31: there is a point", two().fewest(), 0);
    Simplexroom n = none();
    due("31: both", n.fewest(), 3);
    n.bound(1, 1, 0, 0, -1);
    due("31: one alone", n.fewest(), 4);
    n.drop(0);
    due("31: numbers stay", n.fewest(), 4);
    Simplexroom x = room(2, of(0, 0, 0), of(1, 0, 0, 0, 3), of(0, 1, 0, 0, 3), of(1, 0, 0, 1, 5), of(0, 1, 0, 1, 4));
    due("31: the smaller number", x.fewest(), 5);
    Simplexroom y = room(2, of(0, 0, 0), of(1, 1, 0, 1, 9), of(1, 0, 0, 0, 3), of(0, 1, 0, 0, 3));
    due("31: three", y.fewest(), 7);
    y.bound(0, 1, 0, 1, 4);
    due("31: two are fewer than three", y.fewest(), 12);
    Simplexroom z = room(3, of(0, 0, 0), of(2, 2, 9, 0, 45), of(9, 0, 8, 0, 29), of(9, 9, 6, 1, 52),
        of(-3, -1, 6, 0, 43), of(9, 9, -3, 0, 31), of(-2, 9, 7, 0, 39));
    due("31: four", z.fewest(), 54);
    due("31: without bounds", new Simplexroom().fewest(), 0);
  }

  private static void promise32() {
    Simplexroom x = twoBest();
    due("32: as it is", x.would(0, 12), "33/7");
    due("32: more", x.would(0, 27), "9");
    due("32: less", x.would(1, 2), "2");
    due("32: without corners", x.would(0, -1), "!");
    due("32: the table stays", x.value(), "33/7");
    due("32: so does the bound", x.ofBound(1, 4), 9);
    due("32: and the answer", x.house(4), 1);
    Check.fails("32: no bound", x, INDEX, () -> x.would(2, 0));
    Check.fails("32: the bound goes ahead", x, INDEX, () -> x.would(-1, 100));
    Check.fails("32: 100", x, ARGUMENT, () -> x.would(0, 100));
    Check.fails("32: -100", x, ARGUMENT, () -> x.would(0, -100));
    Simplexroom y = strip(1, 1);
    due("32: for ever", y.would(0, 5), "+");
    due("32: without corners goes ahead", y.would(0, -5), "!");
    y.wish(1, -1, 0);
    due("32: along no ray", y.would(0, 5), "5");
    y.wish(-1, 0, 0);
    due("32: falls along it", y.would(0, -1), "0");
  }

  private static void promise33() {
    Simplexroom x = two();
    due("33: at first", x.isSound(), true);
    x.step(0);
    due("33: on the way", x.isSound(), true);
    x.run(0, 20);
    due("33: best", x.isSound(), true);
    Simplexroom n = none();
    due("33: none", n.isSound(), true);
    n.start();
    due("33: a basic is below 0", n.isSound(), true);
    Simplexroom e = strip(2, 1);
    e.run(0, 20);
    due("33: ever", e.isSound(), true);
    Simplexroom s = room(3, of(6, -1, 2), of(1, 1, 1, 2, 7), of(1, -1, 0, 0, 2), of(0, 2, 3, 1, 4));
    s.run(1, 20);
    due("33: with an equality", s.isSound(), true);
  }

  private static long digestOf(long... numbers) {
    long d = 6841;
    for (long v : numbers) {
      d = d * 31 + v;
    }
    return d;
  }

  private static void promise34() {
    due("34: new", new Simplexroom().digest(),
        digestOf(2, 0, 0, 0, 0, 0, 0, -1, 0, 0, 0, 0, 0, 1, 1, 1, 1, 3, 2, 1, 1, 3, 1));
    due("34: best", twoBest().digest(), digestOf(2, 2, 3, 2, 1, 2, 3, -1, 0, 0, 1, 1, 0,
        0, 3, 2, 0, 0, 12, 0, 1, 1, 3, 0, 0, 9, 1, 4, 4, 4, 1, 1, 3, 1, 2, 3, 1, 2, 3, 3, 3, 1,
        4, 3, 0, 1, 4, 9, 1));
    Simplexroom e = strip(2, -1);
    e.run(1, 20);
    e.blank();
    e.knock();
    e.knock();
    due("34: ever", e.digest(), digestOf(2, 2, 3, 2, 2, 1, 9, -1, 1, 2, 2, -1, 0,
        0, 1, -1, 0, 0, 1, 0, 1, -1, 1, 0, 0, 1, 1, 1, 1, 1, 1, 1, 1, 1, 3, 3, 1, 1, 4, 3, 1));
    due("34: none", none().digest(), digestOf(2, 2, 3, 2, 3, 1, 9, -1, 0, 0, 1, 1, 0,
        0, 1, 1, 0, 1, 5, 0, 1, 1, 2, 0, 0, 4, 1, 1, 1, 1, 1, 2, 1, 1, 0, 0, 0, 0, 0, 1));
    Simplexroom x = two();
    long before = x.digest();
    due("34: again", x.digest(), before);
  }

  public static void main(String[] args) {
    promises14To16();
    promise17();
    promise18();
    promise19();
    promise20();
    promise21();
    promise22();
    promises23To26();
    promises27And28();
    promise29();
    promise30();
    promise31();
    promise32();
    promise33();
    promise34();
    Check.end();
  }
}
