/** The boundaries that the document names of tables, steps, rings, witnesses, ranges and lines. */
public final class EdgeSearchTests {
  private EdgeSearchTests() { }

  private static void due(String what, Object got, Object want) {
    Check.due(what, got, want);
  }

  private static int[] of(int... numbers) {
    return numbers;
  }

  private static Simplexroom room(int width, int[] wish, int[]... bounds) {
    return Check.room(width, wish, bounds);
  }

  // ---- "A TABLE has as many BASICS as there are ROWS"

  private static void noRows() {
    for (int width = 1; width <= 3; width++) {
      Simplexroom x = room(width, of(0, 0, 0));
      due("no rows", x.house(3), 0);
      due("no basics", x.house(6), 0);
      due("no value", x.value(), "0");
      for (int v = 0; v < width; v++) {
        due("all are outer ones", x.factor(v, v) + x.factor(-1, v) + x.number(v), "00");
      }
      due("best at once", x.step(width - 1), 3);
      due("no basics still", x.house(6), 0);
      for (int v = 0; v < width; v++) {
        due("no least", x.wishRange(v, false), "-");
        due("greatest", x.wishRange(v, true), "0");
      }
      due("sound", x.isSound(), true);
    }
  }

  private static void noRowsAndAWish() {
    Simplexroom x = room(3, of(-1, 2, 5));
    due("ever by rule 0", x.step(0), 4);
    due("the way of the first one", x.way(0) + x.way(1) + x.way(2), "010");
    x.start();
    due("ever by rule 1", x.step(1), 4);
    due("the way of the greatest gain", x.way(0) + x.way(1) + x.way(2), "001");
    x.start();
    due("ever by rule 2", x.step(2), 4);
    due("the way of the first without a limit", x.way(0) + x.way(1) + x.way(2), "010");
    due("no step was made", x.house(5), 0);
    due("sound", x.isSound(), true);
  }

  private static void twelveRows() {
    Simplexroom x = new Simplexroom();
    x.wide(3);
    for (int i = 0; i < 6; i++) {
      x.bound(i, 1, -i, 2, 5 - 2 * i);
    }
    due("rows", x.house(3), 12);
    due("all slacks are basics", x.house(6), 32767 - 7);
    for (int i = 0; i < 6; i++) {
      due("first row of " + i, x.ofBound(i, 5), 2 * i);
      due("first as it is", x.number(3 + 2 * i), "" + (5 - 2 * i));
      due("then turned", x.number(4 + 2 * i), "" + (2 * i - 5));
      due("a factor as it is", x.factor(3 + 2 * i, 2), "" + -i);
      due("a factor turned", x.factor(4 + 2 * i, 2), "" + i);
    }
  }

  private static void rowsOfEachKind() {
    Simplexroom x = room(2, of(0, 0, 0), of(1, 2, 0, 1, -3), of(4, 5, 0, 2, 6), of(7, 8, 0, 0, 9));
    due("rows", x.house(3), 4);
    due("kind 1 turned", x.number(2) + x.factor(2, 0) + x.factor(2, 1), "3-1-2");
    due("kind 2 as it is", x.number(3) + x.factor(3, 0) + x.factor(3, 1), "645");
    due("kind 2 turned", x.number(4) + x.factor(4, 0) + x.factor(4, 1), "-6-4-5");
    due("kind 0 as it is", x.number(5) + x.factor(5, 0) + x.factor(5, 1), "978");
    due("first rows", x.ofBound(0, 5) * 100 + x.ofBound(1, 5) * 10 + x.ofBound(2, 5), 13);
  }

  // ---- "If a BASIC has a number below 0: the first one of these LEAVES."

  private static void zeroIsNotBelowZero() {
    Simplexroom x = room(1, of(-1, 0, 0), of(1, 0, 0, 1, 0));
    due("0 stays", x.step(0), 3);
    due("no step", x.house(5), 0);
    Simplexroom y = room(1, of(-1, 0, 0), of(1, 0, 0, 1, 1));
    due("-1 leaves", y.step(0), 1);
    due("it left", y.house(6), 1);
    Simplexroom z = room(1, of(-1, 0, 0), of(1, 0, 0, 0, -1));
    due("nothing lifts it", z.step(0), 5);
    Simplexroom w = room(1, of(-1, 0, 0), of(1, 0, 0, 0, 0));
    due("0 of kind 0", w.step(0), 3);
    Simplexroom v = room(1, of(1, 0, 0), of(1, 0, 0, 2, 0));
    due("0 of kind 2", v.step(0), 2);
    due("both are 0", v.number(0) + v.number(1) + v.number(2), "000");
  }

  private static void theFirstBelowLeaves() {
    Simplexroom x = room(2, of(0, 0, 0), of(1, 0, 0, 0, 3), of(0, 1, 0, 1, 1), of(1, 0, 0, 1, 2));
    due("by 1.", x.step(0), 1);
    due("not the one that is least", x.house(6), 4 + 2 + 16);
    due("by 1. again", x.step(0), 1);
    due("then the next", x.house(6), 4 + 2 + 1);
  }

  private static void theFirstWithAFactorBelowZeroEnters() {
    Simplexroom x = room(3, of(9, 9, 9), of(0, -1, 2, 1, 3));
    due("by 1.", x.step(2), 1);
    due("0 and 1 are not below 0", x.house(6), 4);
    Simplexroom y = room(3, of(0, 0, 0), of(0, 1, 9, 1, 3));
    y.step(1);
    due("the first one, not the greatest", y.house(6), 2);
  }

  private static void aFactorOfZeroLiftsNothing() {
    Simplexroom x = room(3, of(1, 1, 1), of(0, 0, 0, 1, 1));
    due("none", x.step(0), 5);
    due("its own multiplier", x.multiplier(0), "1");
    due("no step", x.house(5), 0);
    due("sound", x.isSound(), true);
    Simplexroom y = room(3, of(1, 1, 1), of(0, 0, 0, 0, -1), of(1, 1, 1, 0, 5));
    due("none of kind 0", y.run(2, 20) * 10 + y.house(4), 3);
    due("its own, another basic", y.multiplier(0) + y.multiplier(1), "10");
    Simplexroom z = room(3, of(0, 0, 0), of(0, 0, 0, 2, 1));
    due("none of kind 2", z.step(0), 5);
    due("the turned row", z.multiplier(0) + z.multiplier(1), "01");
  }

  // ---- "of the OUTER ones whose GAIN is above 0 one ENTERS", "Without one, the ANSWER is BEST."

  private static void aGainOfZeroEntersNot() {
    for (int rule = 0; rule <= 2; rule++) {
      Simplexroom x = room(3, of(0, -1, 0), of(1, 1, 1, 0, 4));
      due("best by rule " + rule, x.step(rule), 3);
      Simplexroom y = room(3, of(0, -1, 1), of(1, 1, 1, 0, 4));
      due("by 2. by rule " + rule, y.step(rule), 2);
      due("the third one enters", y.house(6), 4);
      due("then best", y.step(rule), 3);
      due("of 4", y.value(), "4");
    }
  }

  // ---- "LIMIT .. the smallest of number / FACTOR of the BASICS whose FACTOR of it is above 0"

  private static void aFactorOfZeroIsNoLimit() {
    for (int rule = 0; rule <= 2; rule++) {
      Simplexroom x = room(2, of(1, 0, 0), of(0, 1, 0, 0, 5), of(-1, 0, 0, 0, 0));
      due("ever by rule " + rule, x.step(rule), 4);
      due("the way", x.way(0) + x.way(1), "10");
      due("no step", x.house(5), 0);
    }
  }

  private static void aLimitOfZeroIsOne() {
    for (int rule = 0; rule <= 2; rule++) {
      Simplexroom x = room(1, of(1, 0, 0), of(1, 0, 0, 0, 5), of(2, 0, 0, 0, 0));
      due("by 2. by rule " + rule, x.step(rule), 2);
      due("the second row leaves", x.house(6), 3);
      due("nothing grew", x.value(), "0");
      due("best", x.step(rule), 3);
    }
  }

  private static void growthByRuleTwo() {
    // limits 0, 0 and 1: the growths are 0, 0 and 1
    Simplexroom x = room(3, of(9, 8, 1), of(1, 0, 0, 0, 0), of(0, 1, 0, 0, 0), of(0, 0, 1, 0, 1));
    x.step(2);
    due("more than 0", x.house(6), 4 + 8 + 16);
    x.step(2);
    due("of two of 0 the first one", x.house(6), 1 + 4 + 16);
    x.step(2);
    due("then the second one", x.house(6), 1 + 2 + 4);
    due("best", x.step(2), 3);
    // growths 9 * 1/3 and 2 * 3/2
    Simplexroom y = room(2, of(9, 2, 0), of(3, 0, 0, 0, 1), of(0, 2, 0, 0, 3));
    y.step(2);
    due("of two that are the same the first one", y.house(6), 1 + 8);
    Simplexroom z = room(2, of(9, 3, 0), of(3, 0, 0, 0, 1), of(0, 2, 0, 0, 3));
    z.step(2);
    due("the second one by a half", z.house(6), 2 + 4);
    // without a limit more than with any, the first one of these
    Simplexroom w = room(3, of(9, 1, 2), of(1, 0, 0, 0, 99));
    due("ever", w.step(2), 4);
    due("the first without a limit", w.way(0) + w.way(1) + w.way(2), "010");
  }

  private static void theFirstOfTheSmallestLeaves() {
    // limits 4/2, 2, 6/3 and 5: three of 2
    Simplexroom x = room(1, of(1, 0, 0), of(1, 0, 0, 0, 5), of(3, 0, 0, 0, 6), of(1, 0, 0, 0, 2), of(2, 0, 0, 0, 4));
    x.step(0);
    due("the first of three leaves", x.house(6), 1 + 2 + 8 + 16);
    due("the other ones are 0", x.number(3) + x.number(4), "00");
  }

  // ---- "(With an ANSWER the TABLE stays.)", "0 there was an ANSWER"

  private static void withAnAnswerTheTableStays() {
    Simplexroom[] all = {room(2, of(1, 1, 0), of(1, 1, 0, 0, 3)), room(2, of(1, 2, 0), of(1, -1, 0, 0, 1)),
      room(2, of(1, 1, 0), of(1, 1, 0, 0, 3), of(1, 0, 0, 1, 4))};
    int[] answers = {1, 2, 3};
    for (int i = 0; i < all.length; i++) {
      Simplexroom x = all[i];
      x.run(0, 20);
      due("the answer", x.house(4), answers[i]);
      String before = Check.whole(x);
      for (int rule = 0; rule <= 2; rule++) {
        due("there was one", x.step(rule), 0);
        due("nor by run", x.run(rule, 20), 0);
        due("all stays", Check.whole(x), before);
      }
    }
  }

  private static void theRuleOfThatStep() {
    Simplexroom x = room(2, of(1, 2, 0), of(1, -1, 0, 0, 1));
    due("ever by rule 1 at once", x.step(1), 4);
    due("the second one", x.way(0) + x.way(1), "01");
    due("an answer is there", x.step(0), 0);
    due("its way stays", x.way(0) + x.way(1), "01");
    x.start();
    due("a step by rule 0", x.step(0), 2);
    due("then ever", x.step(0), 4);
    due("the second one, and the first with it", x.way(0) + x.way(1), "11");
  }

  // ---- "STEPS, as long as there is no ANSWER, and no RING. (Behind the last of so many ..)"

  private static void theAnswerBehindTheLast() {
    Simplexroom x = room(2, of(1, 1, 0), of(3, 2, 0, 0, 12), of(1, 3, 0, 0, 9));
    due("two of two", x.run(0, 2), 2);
    due("not looked for", x.house(4), 0);
    due("step finds it", x.step(0), 3);
    x.start();
    due("two of three", x.run(0, 3), 2);
    due("looked for", x.house(4), 1);
  }

  private static Simplexroom longRoom(int[] numbers) {
    Simplexroom x = new Simplexroom();
    x.wide(3);
    for (int i = 0; i < 30; i += 5) {
      x.bound(numbers[i], numbers[i + 1], numbers[i + 2], numbers[i + 3], numbers[i + 4]);
    }
    x.wish(numbers[30], numbers[31], numbers[32]);
    return x;
  }

  private static void twentyAtMost() {
    Simplexroom less = longRoom(of(1, 4, -3, 2, 20, 2, 0, 8, 0, 39, -1, 7, -5, 1, 5, 7, 5, -4, 0, 43,
        -5, 3, 0, 2, 15, -2, 4, 3, 0, 21, 0, -1, -5));
    due("19", less.run(0, 20), 19);
    due("an answer", less.house(4) != 0, true);
    Simplexroom same = longRoom(of(4, -5, -5, 2, -2, 8, -6, 7, 1, 12, 6, -5, 8, 1, 19, 6, -6, -2, 2, 27,
        8, 7, -6, 0, 37, -8, -4, 8, 1, -12, -8, -5, 4));
    due("20", same.run(1, 20), 20);
    due("no answer yet", same.house(4), 0);
    due("none is left", same.run(1, 1), 0);
    due("an answer", same.house(4) != 0, true);
    due("20 steps", same.house(5), 20);
    Simplexroom more = longRoom(of(9, -4, -2, 0, -7, 9, 1, 0, 1, 7, 5, 2, 1, 1, 29, 5, -1, -2, 2, -12,
        0, 4, -8, 2, 5, 4, -7, 7, 2, 26, -9, 1, -3));
    due("20 of 21", more.run(2, 20), 20);
    due("no answer yet", more.house(4), 0);
    due("no ring", more.house(7), -1);
    due("one is left", more.run(2, 20), 1);
    due("21 steps", more.house(5), 21);
    Simplexroom most = longRoom(of(-4, -4, 7, 2, -9, 4, 9, -1, 1, 22, 2, 4, -1, 2, 28, 8, -7, 4, 1, -18,
        -8, 8, -5, 0, 6, 2, -9, 6, 1, 0, 0, -2, 6));
    due("20 of 33", most.run(2, 20), 20);
    due("13 are left", most.run(2, 20), 13);
    due("33 steps", most.start(), 33);
  }

  // ---- "A RING of STEPS: .. since TO START; NONE, if it was not."

  private static Simplexroom ring() {
    Simplexroom x = room(3, of(4, -2, 1), of(2, -5, 6, 0, 0), of(2, -3, 2, 0, 0), of(-6, 3, 8, 0, 0),
        of(1, 1, -6, 2, 0), of(0, 0, 1, 0, 0));
    due("eight steps", x.run(1, 20), 8);
    due("a ring", x.house(7), 7);
    return x;
  }

  private static void runWhereThereIsARing() {
    Simplexroom x = ring();
    for (int rule = 0; rule <= 2; rule++) {
      due("no step by rule " + rule, x.run(rule, 1), 0);
      due("none of twenty", x.run(rule, 20), 0);
      due("no answer", x.house(4), 0);
      due("as many steps", x.house(5), 8);
      due("the ring stays", x.house(7), 7);
    }
    due("sound", x.isSound(), true);
    due("a step goes on", x.step(1), 2);
    due("still a ring", x.house(7), 7);
    due("no step", x.run(0, 20), 0);
    int left = 0;
    while (x.house(7) != -1 && left < 9) {
      due("a step out of it", x.step(0), 2);
      left++;
    }
    due("out of it", left < 9, true);
    due("then run goes on", x.run(0, 20) > 0 || x.house(4) != 0, true);
  }

  private static void aRingIsSinceToStart() {
    for (int i = 0; i < 6; i++) {
      Simplexroom x = ring();
      Check.Call[] calls = {() -> x.start(), () -> x.wish(4, -2, 1), () -> x.right(0, 0), () -> x.drop(4),
        () -> x.bound(0, 0, 0, 0, 0), () -> x.wide(3)};
      due("call " + i + " answers", calls[i].ask(), of(8, 0, 0, 4, 5, 3)[i]);
      due("no ring", x.house(7), -1);
      due("no steps", x.house(5), 0);
      due("no answer", x.house(4), 0);
      due("slacks", x.house(6), (1 << x.house(0) + x.house(3)) - 8);
      due("none were made", x.start(), 0);
    }
  }

  private static void noRingAtFirst() {
    due("new", new Simplexroom().house(7), -1);
    Simplexroom x = ring();
    x.start();
    for (int i = 0; i < 7; i++) {
      due("a step", x.step(1), 2);
      due("no ring yet", x.house(7), -1);
    }
    due("the eighth", x.step(1), 2);
    due("seven ago", x.house(7), 7);
  }

  // ---- "TO START" by each call that says so, with an answer of each kind

  private static void toStartAlsoIfNothingIsOther() {
    for (int kind = 0; kind < 3; kind++) {
      for (int i = 0; i < 3; i++) {
        Simplexroom x = room(2, kind == 2 ? of(1, 1, 0) : of(1, -1, 0), of(1, -1, 0, 0, 1),
            of(1, 0, 0, 1, kind == 1 ? 5 : 1), of(0, 1, 0, kind == 1 ? 0 : 1, 0));
        x.run(0, 20);
        due("an answer", x.house(4) != 0, true);
        Check.Call[] calls = {() -> x.start() > 0, () -> x.right(0, 1) == 1,
          () -> x.wish(x.house(10), x.house(11), 77) == 0};
        due("nothing is other", calls[i].ask(), true);
        due("no answer", x.house(4), 0);
        due("no steps", x.house(5), 0);
        due("slacks", x.house(6), 4 + 8 + 16);
      }
    }
  }

  // ---- "RANGE .. ('-' as TEXT, if there is no least, or no greatest.)"

  private static void rangesOfRights() {
    Simplexroom x = room(1, of(1, 0, 0), of(1, 0, 0, 0, 5), of(1, 0, 0, 0, 5), of(0, 0, 0, 0, 5));
    x.run(0, 20);
    due("first one left", x.house(6), 1 + 4 + 8);
    due("least of an outer slack", x.rangeOf(0, false), "0");
    due("greatest is the right itself", x.rangeOf(0, true), "5");
    due("least is the right itself", x.rangeOf(1, false), "5");
    due("no greatest of a basic slack", x.rangeOf(1, true), "-");
    due("a row of no factors", x.rangeOf(2, false) + x.rangeOf(2, true), "0-");
    Simplexroom y = room(1, of(-3, 0, 0), of(2, 0, 0, 1, 5));
    y.run(0, 20);
    due("no least of an outer slack", y.rangeOf(0, false), "-");
    due("greatest of a row that is turned", y.rangeOf(0, true), "0");
    Simplexroom z = room(1, of(1, 0, 0), of(1, 0, 0, 0, 5), of(1, 0, 0, 2, 5));
    z.run(0, 20);
    due("three rows meet", z.house(6) + " " + z.number(0) + z.number(1) + z.number(2) + z.number(3), "13 5000");
    due("least and greatest are one", z.rangeOf(0, false) + " " + z.rangeOf(0, true), "5 5");
    due("of the same as it is", z.rangeOf(1, false) + " " + z.rangeOf(1, true), "5 -");
    due("of the same turned", z.rangeOf(2, false) + " " + z.rangeOf(2, true), "-5 -");
    Simplexroom w = room(2, of(3, -1, 0), of(3, -1, 0, 0, 4), of(-2, 0, 0, 1, -7));
    w.run(0, 20);
    due("fractions", w.rangeOf(0, false) + " " + w.rangeOf(0, true) + " " + w.rangeOf(1, false) + " "
        + w.rangeOf(1, true), "0 21/2 8/3 -");
  }

  private static void rangesOfTheWish() {
    Simplexroom x = room(2, of(0, 0, 0), of(1, 1, 0, 0, 4));
    x.run(0, 20);
    due("at its end", x.wishRange(0, false) + x.wishRange(0, true), "-0");
    Simplexroom y = room(2, of(2, 2, 0), of(1, 1, 0, 0, 4));
    y.run(0, 20);
    due("a basic: least at itself, no greatest", y.wishRange(0, false) + " " + y.wishRange(0, true), "2 -");
    due("an outer one: no least, greatest at itself", y.wishRange(1, false) + " " + y.wishRange(1, true), "- 2");
    Simplexroom z = room(1, of(-2, 0, 0), of(3, 0, 0, 1, 5));
    z.run(0, 20);
    due("a basic: no least", z.wishRange(0, false) + " " + z.wishRange(0, true), "- 0");
    Simplexroom w = room(2, of(-1, -2, 0), of(3, 2, 0, 1, 5));
    w.run(0, 20);
    due("below 0, a fraction", w.wishRange(0, false) + " " + w.wishRange(0, true), "-3 0");
    due("an outer one below 0", w.wishRange(1, false) + " " + w.wishRange(1, true), "- -2/3");
  }

  // ---- "LINE .. (also at the same RIGHT as the one ahead)", "At most 6 BENDS are told"

  private static void lineOfABendAtOnce() {
    Simplexroom x = room(1, of(1, 0, 0), of(1, 0, 0, 0, 5), of(1, 0, 0, 0, 5));
    x.run(0, 20);
    due("at the same right as the beginning", x.line(0), "5:5 5:5 +");
    due("of a basic slack", x.line(1), "5:5 +");
    Simplexroom y = room(1, of(0, 0, 0), of(1, 0, 0, 0, 0));
    y.run(0, 20);
    due("nothing grows", y.line(0), "0:0 +");
    Simplexroom z = room(1, of(1, 0, 0), of(1, 0, 0, 2, 3));
    z.run(0, 20);
    due("an equality as it is", z.line(0), "3:3 +");
    due("an equality turned", z.line(1), "-3:3 +");
    Simplexroom w = room(1, of(-3, 0, 0), of(2, 0, 0, 1, 5));
    w.run(0, 20);
    due("of a row that is turned, to 0", w.line(0), "-5:-15/2 0:0 +");
  }

  private static void lineOfFiveBends() {
    Simplexroom x = room(3, of(5, 9, 3), of(-6, 6, -7, 0, 53), of(-7, 3, 6, 0, 47), of(-4, -6, 6, 0, 16),
        of(7, 5, -1, 0, 54), of(2, 4, 4, 0, 5));
    x.run(1, 20);
    due("five bends, then no greatest number", x.line(4),
        "5:25/2 108/7:270/7 161/4:3275/36 1536/29:3102/29 592/11:1186/11 5468/69:2550/23 +");
  }

  private static void lineOfSixBends() {
    Simplexroom x = room(3, of(4, 6, 3), of(2, 4, 1, 0, 8), of(0, 4, 5, 0, 6), of(1, 0, 2, 0, 8),
        of(4, 4, 1, 0, 37), of(4, 1, 2, 0, 33));
    x.run(1, 20);
    due("six bends, no end behind the sixth", x.line(0),
        "8:86/5 62/5:26 16:32 20:38 361/17:677/17 64/3:959/24 43/2:40");
    Simplexroom y = room(3, of(-3, -2, 7), of(-3, -4, 5, 0, 35), of(2, -5, -4, 0, 45), of(-1, 0, 5, 0, -8),
        of(3, -5, 4, 2, 6));
    y.run(1, 20);
    due("six bends, some at the same right", y.line(2),
        "-8:-156/5 -2:-6 -2:-6 15/2:21/2 15/2:21/2 755/9:93 755/9:93");
  }

  private static void lineOfMoreThanSix() {
    Simplexroom x = room(3, of(8, 1, 8), of(1, 3, 4, 1, 5), of(5, 0, 1, 0, 39), of(1, 2, 0, 0, 7),
        of(5, 4, 6, 0, 9), of(2, 7, 5, 1, 8));
    x.run(1, 20);
    due("nothing behind the sixth", x.line(3), "9:251/22 48/5:64/5 47/3:24 25:40 35:56 59:88 234:312");
    Simplexroom y = room(3, of(5, 8, 8), of(4, 1, 3, 0, 19), of(4, 0, 5, 0, 24), of(1, 5, 2, 0, 2),
        of(2, 3, 4, 0, 26));
    y.run(1, 20);
    due("nothing behind the sixth again", y.line(2),
        "2:10 19/4:95/4 63/8:275/8 48/5:192/5 314/15:848/15 677/30:1759/30 361/10:683/10");
  }

  /** "of the OUTER ones .. that ENTERS whose GAIN / FACTOR is smallest, of several the first one" */
  private static void lineWhereTwoCouldEnter() {
    Simplexroom x = room(2, of(1, 1, 0), of(1, 1, 0, 0, 3), of(1, -1, 0, 0, -1), of(0, 1, 0, 0, 1));
    x.run(0, 20);
    // s0 = 2 + s1 + 2 s2 leaves, the wish is 1 - s1 - 2 s2: both ratios are 1, s1 enters
    due("the slack of the row itself is the first one", x.line(1), "-1:1 1:3 +");
    due("another slack is the first one", x.line(2), "1:1 2:3 3:3 +");
  }

  /** "the first BASIC whose number would be below 0 beyond LEAVES" */
  private static void lineWhereTwoCouldLeave() {
    Simplexroom x = room(2, of(1, 0, 0), of(1, 0, 0, 0, 2), of(1, 1, 0, 0, 4), of(1, -1, 0, 0, 4));
    x.run(0, 20);
    // a = 2 grows to 4, where s1 and s2 are 0: s1 leaves, s0 enters, s2 is never below 0
    due("the first of two leaves", x.line(0), "2:2 4:4 +");
    Simplexroom y = room(2, of(1, 0, 0), of(1, 0, 0, 0, 2), of(1, -1, 0, 0, 4), of(1, 1, 0, 0, 4));
    y.run(0, 20);
    // a - b to 4 leaves, b enters: b is a - 4, and a + b to 4 ends it at the same right
    due("the first of two leaves, then the other one", y.line(0), "2:2 4:4 4:4 +");
  }

  /** Between two bends the line is straight, and would() tells the same of whole rights. */
  private static void linesAreBestValues() {
    Simplexroom x = room(3, of(8, 1, 8), of(1, 3, 4, 1, 5), of(5, 0, 1, 0, 39), of(1, 2, 0, 0, 7),
        of(5, 4, 6, 0, 9), of(2, 7, 5, 1, 8));
    x.run(1, 20);
    due("25:40", x.would(3, 25), "40");
    due("35:56", x.would(3, 35), "56");
    due("59:88", x.would(3, 59), "88");
    due("between", x.would(3, 30), "48");
  }

  // ---- "TEXT is the top, and, if the bottom is not 1, '/' and the bottom (above 0); '-' ahead of .."

  private static void texts() {
    Simplexroom x = room(2, of(-2, 0, 0), of(-3, 0, 0, 0, -2), of(-4, 2, 0, 0, 6), of(0, -5, 0, 0, 1));
    x.run(0, 20);
    due("below 0 with a bottom", x.value(), "-4/3");
    due("above 0 with a bottom", x.number(0), "2/3");
    due("a bottom of 1", x.number(4), "1");
    due("a fraction that is whole", x.number(3) + " " + x.factor(3, 2), "26/3 -4/3");
    due("0 has no sign", x.number(2) + x.number(1), "00");
    due("a gain below 0", x.factor(-1, 2), "-2/3");
    due("a gain of 0", x.factor(-1, 1), "0");
    due("a factor above 0", x.factor(3, 1), "2");
    due("a factor below 0", x.factor(0, 2), "-1/3");
    due("a factor of 0", x.factor(0, 1), "0");
    due("its price", x.price(0), "2/3");
  }

  private static void witnessesOfBasicsAndOthers() {
    Simplexroom x = room(3, of(0, 1, 0), of(-1, 1, -2, 0, 4), of(1, 0, 0, 0, 9));
    due("a step, then best or ever", x.run(0, 20) > 0, true);
    due("ever", x.house(4), 2);
    due("the one that would enter, a basic, an outer one", x.way(2) + " " + x.way(1) + " " + x.way(0), "1 2 0");
    Simplexroom y = room(2, of(1, 1, 0), of(1, 0, 0, 0, 2), of(0, 1, 0, 0, 3), of(1, 1, 0, 0, 9));
    y.run(0, 20);
    due("prices: outer ones, a basic", y.price(0) + y.price(1) + y.price(2), "110");
    Simplexroom z = room(2, of(1, 1, 0), of(1, 1, 0, 2, 4), of(1, 1, 0, 2, 5));
    z.run(0, 20);
    due("none", z.house(4), 3);
    due("multipliers that shut it", z.multiplier(0) + z.multiplier(1) + z.multiplier(2) + z.multiplier(3), "1001");
  }

  public static void main(String[] args) {
    noRows();
    noRowsAndAWish();
    twelveRows();
    rowsOfEachKind();
    zeroIsNotBelowZero();
    theFirstBelowLeaves();
    theFirstWithAFactorBelowZeroEnters();
    aFactorOfZeroLiftsNothing();
    aGainOfZeroEntersNot();
    aFactorOfZeroIsNoLimit();
    aLimitOfZeroIsOne();
    growthByRuleTwo();
    theFirstOfTheSmallestLeaves();
    withAnAnswerTheTableStays();
    theRuleOfThatStep();
    theAnswerBehindTheLast();
    twentyAtMost();
    runWhereThereIsARing();
    aRingIsSinceToStart();
    noRingAtFirst();
    toStartAlsoIfNothingIsOther();
    rangesOfRights();
    rangesOfTheWish();
    lineOfABendAtOnce();
    lineOfFiveBends();
    lineOfSixBends();
    lineOfMoreThanSix();
    lineWhereTwoCouldEnter();
    lineWhereTwoCouldLeave();
    linesAreBestValues();
    texts();
    witnessesOfBasicsAndOthers();
    Check.end();
  }
}
