/** Promises 1 to 13: the room, the search, and what is asked of bounds. */
public final class TellTests {
  private static final Class<?> ARGUMENT = IllegalArgumentException.class;
  private static final Class<?> STATE = IllegalStateException.class;
  private static final Class<?> INDEX = IndexOutOfBoundsException.class;

  private TellTests() { }

  private static void due(String what, Object got, Object want) {
    Check.due(what, got, want);
  }

  private static Simplexroom two() {
    Simplexroom x = new Simplexroom();
    x.bound(3, 2, 0, 0, 12);
    x.bound(1, 3, 0, 0, 9);
    x.wish(1, 1, 0);
    return x;
  }

  private static void promise1() {
    Simplexroom x = new Simplexroom();
    int[] want = {2, 0, 0, 0, 0, 0, 0, -1, 0, 0, 0, 0, 0};
    for (int what = 0; what < want.length; what++) {
      due("1: house(" + what + ")", x.house(what), want[what]);
    }
    due("1: value", x.value(), "0");
    due("1: corners", x.corners(), 1);
    due("1: rays", x.rays(), 2);
    for (int v = 0; v < 2; v++) {
      due("1: number(" + v + ")", x.number(v), "0");
      due("1: gain of " + v, x.factor(-1, v), "0");
    }
    Check.fails("1: no third variable", x, INDEX, () -> x.number(2));
    due("1: step", x.step(2), 3);
    due("1: least", x.wishRange(1, false), "-");
    due("1: greatest", x.wishRange(1, true), "0");
    due("1: sound", x.isSound(), true);
    Simplexroom y = two();
    due("1: another object stays", x.house(1) + x.house(10), 0);
    due("1: this one does not", y.house(1), 2);
  }

  private static void promise2() {
    Simplexroom x = two();
    x.run(0, 20);
    due("2: wide(3)", x.wide(3), 2);
    due("2: no bounds", x.house(1), 0);
    due("2: no rows", x.house(3), 0);
    due("2: wish", x.house(10) + x.house(11) + x.house(12), 0);
    due("2: no answer", x.house(4), 0);
    due("2: no steps", x.house(5), 0);
    due("2: width", x.house(0), 3);
    due("2: rays", x.rays(), 3);
    due("2: wide(3) again", x.wide(3), 3);
    x.bound(1, 1, 1, 0, 4);
    x.wish(1, 2, 3);
    due("2: wide(3) drops too", x.wide(3), 3);
    due("2: nothing there", x.house(2) + x.house(10) + x.house(11) + x.house(12), 0);
    due("2: wide(1)", x.wide(1), 3);
    due("2: bound of one", x.bound(2, 77, -77, 0, 5), 0);
    due("2: corners of one", x.corners(), 2);
    due("2: corner of one", x.corner(1), "5/2");
    due("2: back", x.wide(2), 1);
    Check.fails("2: wide(0)", two(), ARGUMENT, () -> two().wide(0));
    for (int bad : new int[] {0, 4, -1, Integer.MIN_VALUE, Integer.MAX_VALUE}) {
      Simplexroom z = two();
      z.run(0, 1);
      Check.fails("2: wide(" + bad + ")", z, ARGUMENT, () -> z.wide(bad));
    }
  }

  private static void promise3() {
    Simplexroom x = new Simplexroom();
    due("3: c is not looked at", x.bound(9, -9, 10, 0, 99), 0);
    due("3: c is 0", x.ofBound(0, 2), 0);
    due("3: second", x.bound(-9, 9, -10, 1, -99), 1);
    due("3: third", x.bound(0, 0, 0, 2, 0), 2);
    due("3: fourth", x.bound(1, 2, 0, 2, 3), 3);
    x.drop(1);
    x.drop(0);
    due("3: smallest free", x.bound(1, 0, 0, 0, 1), 0);
    due("3: next free", x.bound(1, 1, 0, 0, 2), 1);
    due("3: fifth", x.bound(2, 1, 0, 0, 4), 4);
    due("3: sixth", x.bound(1, 2, 0, 0, 4), 5);
    due("3: set", x.house(2), 63);
    Check.fails("3: a seventh", x, STATE, () -> x.bound(1, 1, 0, 0, 1));
    Check.fails("3: the argument goes ahead", x, ARGUMENT, () -> x.bound(10, 1, 0, 0, 1));
    Check.fails("3: the kind goes ahead", x, ARGUMENT, () -> x.bound(1, 1, 0, 3, 1));
    Check.fails("3: the right goes ahead", x, ARGUMENT, () -> x.bound(1, 1, 0, 0, 100));
    Simplexroom y = two();
    y.run(0, 20);
    int[][] bad = {{10, 0, 0, 0, 0}, {-10, 0, 0, 0, 0}, {0, 10, 0, 0, 0}, {0, -10, 0, 0, 0}, {0, 0, 0, -1, 0},
        {0, 0, 0, 3, 0}, {0, 0, 0, 0, 100}, {0, 0, 0, 0, -100}};
    for (int[] b : bad) {
      Check.fails("3: bad", y, ARGUMENT, () -> y.bound(b[0], b[1], b[2], b[3], b[4]));
    }
    due("3: to start", y.bound(1, 0, 0, 0, 1), 2);
    due("3: no answer", y.house(4), 0);
    due("3: no steps", y.house(5), 0);
    due("3: slacks", y.house(6), 28);
    Simplexroom z = new Simplexroom();
    z.wide(3);
    Check.fails("3: c is looked at", z, ARGUMENT, () -> z.bound(0, 0, 10, 0, 0));
    Check.fails("3: c below", z, ARGUMENT, () -> z.bound(0, 0, -10, 0, 0));
    z.wide(1);
    due("3: b is not looked at", z.bound(1, 10, 10, 0, 3), 0);
    due("3: b is 0", z.ofBound(0, 1), 0);
  }

  private static void promise4() {
    Simplexroom x = two();
    x.bound(1, 1, 0, 2, 4);
    x.run(0, 20);
    due("4: drop(0)", x.drop(0), 2);
    due("4: set", x.house(2), 6);
    due("4: rows", x.house(3), 3);
    due("4: to start", x.house(4) + x.house(5), 0);
    due("4: slacks", x.house(6), 28);
    due("4: rows go down", x.ofBound(1, 5), 0);
    Check.fails("4: dropped", x, INDEX, () -> x.drop(0));
    Check.fails("4: none", x, INDEX, () -> x.drop(3));
    Check.fails("4: -1", x, INDEX, () -> x.drop(-1));
    Check.fails("4: 32", x, INDEX, () -> x.drop(33));
    Check.fails("4: far", x, INDEX, () -> x.drop(Integer.MIN_VALUE));
    due("4: drop(2)", x.drop(2), 1);
    due("4: drop(1)", x.drop(1), 0);
    due("4: empty", x.house(3), 0);
  }

  private static void promise5() {
    Simplexroom x = two();
    x.run(0, 20);
    due("5: right", x.right(1, 2), 9);
    due("5: told", x.ofBound(1, 4), 2);
    due("5: to start", x.house(4) + x.house(5), 0);
    x.run(0, 20);
    due("5: counts", x.value(), "2");
    due("5: the same", x.right(1, 2), 2);
    due("5: to start too", x.house(4) + x.house(5), 0);
    due("5: -99", x.right(0, -99), 12);
    due("5: 99", x.right(0, 99), -99);
    Check.fails("5: no bound", x, INDEX, () -> x.right(2, 1));
    Check.fails("5: the bound goes ahead", x, INDEX, () -> x.right(-1, 100));
    Check.fails("5: 100", x, ARGUMENT, () -> x.right(0, 100));
    Check.fails("5: -100", x, ARGUMENT, () -> x.right(0, -100));
  }

  private static void promise6() {
    Simplexroom x = two();
    x.run(0, 20);
    due("6: none is other", x.wish(1, 1, 77), 0);
    due("6: to start", x.house(4) + x.house(5), 0);
    due("6: c stays 0", x.house(12), 0);
    due("6: one", x.wish(1, -9, 0), 1);
    due("6: two", x.wish(9, 9, 0), 2);
    Check.fails("6: a", x, ARGUMENT, () -> x.wish(10, 0, 0));
    Check.fails("6: b", x, ARGUMENT, () -> x.wish(0, -10, 0));
    x.wide(3);
    due("6: three", x.wish(1, 2, 3), 3);
    due("6: factors", x.house(10) * 100 + x.house(11) * 10 + x.house(12), 123);
    Check.fails("6: c", x, ARGUMENT, () -> x.wish(0, 0, 10));
    x.wide(1);
    due("6: b is not looked at", x.wish(4, 10, 10), 1);
    due("6: b is 0", x.house(11) + x.house(12), 0);
  }

  private static void promise7() {
    Simplexroom x = two();
    due("7: none yet", x.start(), 0);
    x.run(0, 20);
    due("7: answer", x.house(4), 1);
    due("7: start", x.start(), 2);
    due("7: no answer", x.house(4), 0);
    due("7: no steps", x.house(5), 0);
    due("7: slacks", x.house(6), 12);
    due("7: no ring", x.house(7), -1);
    due("7: value", x.value(), "0");
    due("7: again", x.start(), 0);
    due("7: bounds stay", x.house(2), 3);
  }

  private static void promise8() {
    Simplexroom x = two();
    due("8: by 2.", x.step(0), 2);
    due("8: a comes, the first row leaves", x.house(6), 9);
    due("8: by 2. again", x.step(0), 2);
    due("8: b comes, the second row leaves", x.house(6), 3);
    due("8: best", x.step(0), 3);
    due("8: it stays", x.house(6), 3);
    due("8: steps", x.house(5), 2);
    due("8: there is one", x.step(2), 0);
    for (int bad : new int[] {-1, 3, Integer.MAX_VALUE}) {
      Check.fails("8: rule " + bad, x, ARGUMENT, () -> x.step(bad));
      Simplexroom z = two();
      Check.fails("8: rule " + bad + " at first", z, ARGUMENT, () -> z.step(bad));
    }
    Simplexroom ever = new Simplexroom();
    ever.bound(1, -1, 0, 0, 1);
    ever.wish(1, 0, 0);
    due("8: by 2. at first", ever.step(1), 2);
    due("8: ever", ever.step(1), 4);
    due("8: answer 2", ever.house(4), 2);
    due("8: there is ever", ever.step(0), 0);
    Simplexroom none = new Simplexroom();
    none.bound(1, 1, 0, 1, 5);
    none.bound(1, 2, 0, 0, 4);
    due("8: by 1.", none.step(0), 1);
    due("8: none", none.step(0), 5);
    due("8: answer 3", none.house(4), 3);
    due("8: one step", none.house(5), 1);
    rules();
    ties();
  }

  private static void rules() {
    // gains 2, 3, 1; limits 10, 2, 9: the growths are 20, 6, 9
    int[] comes = {0, 1, 0};
    for (int rule = 0; rule <= 2; rule++) {
      Simplexroom x = new Simplexroom();
      x.wide(3);
      x.bound(1, 0, 0, 0, 10);
      x.bound(0, 1, 0, 0, 2);
      x.bound(0, 0, 1, 0, 9);
      x.wish(2, 3, 1);
      x.step(rule);
      due("8: by rule " + rule, x.house(6) & 7, 1 << comes[rule]);
    }
    Simplexroom y = new Simplexroom();
    y.wide(3);
    y.bound(9, 0, 0, 0, 99);
    y.bound(0, 1, 0, 0, 9);
    y.wish(2, 3, 1);
    y.step(2);
    due("8: without a limit more than with any", y.house(4), 2);
    due("8: that is the way", y.way(2), "1");
    y.start();
    y.step(0);
    due("8: the first one", y.house(6), 1 + 16);
    y.start();
    y.step(1);
    due("8: the greatest gain", y.house(6), 2 + 8);
  }

  private static void ties() {
    Simplexroom x = new Simplexroom();
    x.wide(3);
    x.bound(1, 1, 1, 0, 4);
    x.bound(2, 2, 2, 0, 8);
    x.wish(0, 5, 5);
    x.step(1);
    due("8: the first of two gains, the first of two limits", x.house(6), 2 + 16);
    x.start();
    x.step(2);
    due("8: the first of two growths", x.house(6), 2 + 16);
    Simplexroom y = new Simplexroom();
    y.bound(1, 0, 0, 1, 1);
    y.bound(1, 1, 0, 1, 3);
    y.step(0);
    due("8: the first below 0 leaves, the first lifts", y.house(6), 1 + 8);
    y.step(0);
    due("8: then the next", y.house(6), 1 + 2);
    Simplexroom z = new Simplexroom();
    z.wide(3);
    z.wish(0, 1, 2);
    z.step(2);
    due("8: of two without a limit the first", z.way(1) + z.way(2), "10");
    z.start();
    z.step(1);
    due("8: the greater gain", z.way(1) + z.way(2), "01");
  }

  private static void promise9() {
    Simplexroom x = two();
    due("9: two at most", x.run(0, 2), 2);
    due("9: the answer is not looked for", x.house(4), 0);
    due("9: none is left", x.run(0, 20), 0);
    due("9: but the answer", x.house(4), 1);
    due("9: with an answer", x.run(1, 20), 0);
    for (int[] bad : new int[][] {{-1, 1}, {3, 1}, {0, 0}, {0, 21}, {1, -1}, {2, Integer.MAX_VALUE}}) {
      Check.fails("9: bad", x, ARGUMENT, () -> x.run(bad[0], bad[1]));
    }
    Simplexroom y = two();
    due("9: one", y.run(1, 1), 1);
    due("9: and on", y.run(1, 1), 1);
    due("9: steps", y.house(5), 2);
    Simplexroom z = new Simplexroom();
    due("9: nothing to do", z.run(2, 1), 0);
    due("9: best at once", z.house(4), 1);
  }

  /** Its steps go round if the ninth one is by rule 1. */
  private static Simplexroom round() {
    Simplexroom x = new Simplexroom();
    x.wide(3);
    x.bound(2, -5, 6, 0, 0);
    x.bound(2, -3, 2, 2, 0);
    x.bound(-4, 4, 1, 0, 0);
    x.bound(1, 1, -6, 2, 0);
    x.bound(0, 0, 1, 0, 0);
    x.wish(7, 0, 1);
    return x;
  }

  private static void rings() {
    Simplexroom x = round();
    int[] rules = {0, 0, 2, 0, 1, 2, 2, 0, 1};
    for (int rule : rules) {
      due("13: no ring yet", x.house(7), -1);
      due("13: round", x.step(rule), 2);
    }
    due("13: ring", x.house(7), 8);
    due("13: steps", x.house(5), 9);
    due("9: no steps with a ring", x.run(0, 20), 0);
    due("9: nor an answer", x.house(4), 0);
    for (int turn = 0; turn < 3; turn++) {
      for (int i = 1; i < rules.length; i++) {
        due("13: round again", x.step(rules[i]), 2);
        due("13: the last time counts", x.house(7), 8);
      }
    }
    due("13: steps of all turns", x.house(5), 33);
    due("7: steps of all turns", x.start(), 33);
    due("13: since to start", x.house(7), -1);
    x.step(0);
    due("13: that was before", x.house(7), -1);
    Simplexroom y = round();
    due("9: eight by rule 0", y.run(0, 8), 8);
    due("9: a ring ends it", y.run(1, 20), 1);
    due("9: there it is", y.house(7), 8);
    for (int i = 0; i < 7; i++) {
      due("13: on along the ring", y.step(0), 2);
      due("13: still a ring", y.house(7), 8);
    }
    due("13: out of it", y.step(0), 2);
    due("13: no ring there", y.house(7), -1);
    due("9: on from there", y.run(0, 20), 1);
    due("9: to the answer", y.house(4), 1);
    Simplexroom z = new Simplexroom();
    z.wide(3);
    z.bound(2, -5, 6, 0, 0);
    z.bound(2, -3, 2, 0, 0);
    z.bound(-6, 3, 8, 0, 0);
    z.bound(1, 1, -6, 2, 0);
    z.bound(0, 0, 1, 0, 0);
    z.wish(4, -2, 1);
    due("9: by one rule alone", z.run(1, 20), 8);
    due("13: seven ago", z.house(7), 7);
    due("9: it stays", z.run(1, 20), 0);
  }

  private static void promises10And11() {
    Simplexroom x = two();
    x.run(0, 1);
    due("10: blank", x.blank(), -9);
    due("10: again", x.blank(), -9);
    due("10: counted", x.house(8), 2);
    due("11: knock", x.knock(), 1);
    due("11: again", x.knock(), 2);
    due("11: again", x.knock(), 3);
    due("11: counted", x.house(9), 3);
    due("10: nothing else", x.house(5), 1);
    x.wide(3);
    x.start();
    due("10: ever", x.house(8), 2);
    due("11: ever", x.knock(), 4);
    due("10: not of others", new Simplexroom().house(8), 0);
    due("11: not of others", new Simplexroom().knock(), 1);
  }

  private static void promise12() {
    Simplexroom x = new Simplexroom();
    x.wide(3);
    x.bound(1, -2, 3, 2, -7);
    x.bound(4, 5, -6, 1, 8);
    x.bound(0, 0, 9, 2, 0);
    x.bound(1, 1, 1, 0, 3);
    int[][] want = {{1, -2, 3, 2, -7, 0}, {4, 5, -6, 1, 8, 2}, {0, 0, 9, 2, 0, 3}, {1, 1, 1, 0, 3, 5}};
    for (int b = 0; b < 4; b++) {
      for (int what = 0; what <= 5; what++) {
        due("12: ofBound(" + b + ", " + what + ")", x.ofBound(b, what), want[b][what]);
      }
    }
    Check.fails("12: what -1", x, ARGUMENT, () -> x.ofBound(0, -1));
    Check.fails("12: what 6", x, ARGUMENT, () -> x.ofBound(0, 6));
    Check.fails("12: no bound", x, INDEX, () -> x.ofBound(4, 0));
    Check.fails("12: the bound goes ahead", x, INDEX, () -> x.ofBound(6, 6));
    x.drop(0);
    Check.fails("12: dropped", x, INDEX, () -> x.ofBound(0, 0));
    due("12: the first row now", x.ofBound(1, 5), 0);
  }

  private static void promise13() {
    Simplexroom x = two();
    x.bound(1, 1, 0, 2, 4);
    x.run(0, 20);
    x.blank();
    int[] want = {2, 3, 7, 4, 1, 3, 43, -1, 1, 0, 1, 1, 0};
    for (int what = 0; what < want.length; what++) {
      due("13: house(" + what + ")", x.house(what), want[what]);
    }
    Check.fails("13: -1", x, ARGUMENT, () -> x.house(-1));
    Check.fails("13: 13", x, ARGUMENT, () -> x.house(13));
    Check.fails("13: far", x, ARGUMENT, () -> x.house(Integer.MIN_VALUE));
    x.drop(1);
    due("13: set with a gap", x.house(2), 5);
    due("13: rows", x.house(3), 3);
  }

  public static void main(String[] args) {
    promise1();
    promise2();
    promise3();
    promise4();
    promise5();
    promise6();
    promise7();
    promise8();
    promise9();
    rings();
    promises10And11();
    promise12();
    promise13();
    Check.end();
  }
}
