/** What README.md shows, line by line, and its table of exceptions. */
public final class ReadmeTests {
  private static final Class<?> ARGUMENT = IllegalArgumentException.class;
  private static final Class<?> STATE = IllegalStateException.class;
  private static final Class<?> INDEX = IndexOutOfBoundsException.class;

  private ReadmeTests() { }

  private static void due(String what, Object got, Object want) {
    Check.due(what, got, want);
  }

  private static void fails(String what, Simplexroom x, Class<?> kind, Check.Call call) {
    Check.fails(what, x, kind, call);
  }

  private static Simplexroom told() {
    Simplexroom x = new Simplexroom();
    due("wide(2)", x.wide(2), 2);
    due("bound(3, 2, 0, 0, 12)", x.bound(3, 2, 0, 0, 12), 0);
    due("bound(1, 3, 0, 0, 9)", x.bound(1, 3, 0, 0, 9), 1);
    due("wish(1, 1, 0)", x.wish(1, 1, 0), 2);
    return x;
  }

  private static void search() {
    Simplexroom x = told();
    due("step(0)", x.step(0), 2);
    due("value() on the way", x.value(), "4");
    due("run(0, 20)", x.run(0, 20), 1);
    due("house(4)", x.house(4), 1);
    due("house(5)", x.house(5), 2);
    due("house(7)", x.house(7), -1);
    due("start()", x.start(), 2);
  }

  private static Simplexroom best() {
    Simplexroom x = told();
    x.run(0, 20);
    return x;
  }

  private static void asked() {
    Simplexroom x = best();
    due("value()", x.value(), "33/7");
    due("number(0)", x.number(0), "18/7");
    due("factor(0, 2)", x.factor(0, 2), "3/7");
    due("factor(-1, 2)", x.factor(-1, 2), "-2/7");
    due("price(0)", x.price(0), "2/7");
    due("rangeOf(0, true)", x.rangeOf(0, true), "27");
    due("wishRange(0, false)", x.wishRange(0, false), "1/3");
    due("line(0)", x.line(0), "12:33/7 27:9 +");
    due("corners()", x.corners(), 4);
    due("corner(2)", x.corner(2), "18/7 15/7");
    due("rays()", x.rays(), 0);
    due("best(false)", x.best(false), 1);
    due("best(true)", x.best(true), 4);
    due("middle()", x.middle(), "18/7 15/7");
    due("whole(0)", x.whole(0), "4");
    due("whole(1)", x.whole(1), "2 2");
    due("whole(2)", x.whole(2), "9");
    due("needless()", x.needless(), 0);
    due("would(0, 27)", x.would(0, 27), "9");
    due("isSound()", x.isSound(), true);
    due("digest()", x.digest(), -1222376254265190035L);
  }

  private static void otherAnswers() {
    Simplexroom x = best();
    due("bound(1, 1, 0, 1, 9)", x.bound(1, 1, 0, 1, 9), 2);
    due("run(0, 20) to NONE", x.run(0, 20), 2);
    due("house(4) with NONE", x.house(4), 3);
    due("multiplier(2)", x.multiplier(2), "2");
    due("fewest()", x.fewest(), 5);
    due("drop(0)", x.drop(0), 2);
    due("drop(1)", x.drop(1), 1);
    due("run(0, 20) to EVER", x.run(0, 20), 1);
    due("house(4) with EVER", x.house(4), 2);
    due("way(0)", x.way(0), "1");
  }

  /** What is -9 elsewhere is no call of blank(). */
  private static void counted() {
    Simplexroom x = new Simplexroom();
    x.bound(-9, 0, 0, 0, -9);
    x.wish(-9, 0, 0);
    due("-9 as a factor", x.ofBound(0, 0), -9);
    due("-9 as a right", x.right(0, 3), -9);
    due("-9 as a wish", x.house(10), -9);
    due("-9 as a gain", x.factor(-1, 0), "-9");
    due("none of them is counted", x.house(8), 0);
    due("blank()", x.blank(), -9);
    due("that one is", x.house(8), 1);
    due("knock()", x.knock(), 1);
    due("house(9)", x.house(9), 1);
  }

  private static void exceptionsOfTelling() {
    Simplexroom x = best();
    fails("wide", x, ARGUMENT, () -> x.wide(4));
    fails("bound, a factor", x, ARGUMENT, () -> x.bound(10, 0, 0, 0, 0));
    fails("bound, kind", x, ARGUMENT, () -> x.bound(0, 0, 0, 3, 0));
    fails("bound, right", x, ARGUMENT, () -> x.bound(0, 0, 0, 0, 100));
    fails("drop", x, INDEX, () -> x.drop(2));
    fails("right", x, INDEX, () -> x.right(2, 100));
    fails("right, right", x, ARGUMENT, () -> x.right(1, 100));
    fails("would", x, INDEX, () -> x.would(2, 100));
    fails("would, right", x, ARGUMENT, () -> x.would(1, 100));
    fails("wish", x, ARGUMENT, () -> x.wish(0, 10, 0));
    fails("step", x, ARGUMENT, () -> x.step(3));
    fails("run", x, ARGUMENT, () -> x.run(3, 1));
    fails("run, most", x, ARGUMENT, () -> x.run(0, 21));
    fails("ofBound", x, INDEX, () -> x.ofBound(2, 6));
    fails("ofBound, what", x, ARGUMENT, () -> x.ofBound(1, 6));
    fails("house", x, ARGUMENT, () -> x.house(13));
    Simplexroom six = new Simplexroom();
    for (int i = 0; i < 6; i++) {
      six.bound(1, 1, 0, 0, i);
    }
    fails("bound, six", six, STATE, () -> six.bound(1, 1, 0, 0, 6));
    fails("bound, the argument first", six, ARGUMENT, () -> six.bound(1, 10, 0, 0, 6));
  }

  private static void exceptionsOfAsking() {
    Simplexroom x = best();
    fails("number", x, INDEX, () -> x.number(4));
    fails("factor", x, INDEX, () -> x.factor(0, -1));
    fails("way", x, STATE, () -> x.way(1));
    fails("multiplier", x, STATE, () -> x.multiplier(1));
    fails("corner", x, INDEX, () -> x.corner(4));
    fails("ray", x, INDEX, () -> x.ray(0));
    fails("whole, what", x, ARGUMENT, () -> x.whole(3));
    Simplexroom y = told();
    fails("price", y, STATE, () -> y.price(1));
    fails("rangeOf", y, STATE, () -> y.rangeOf(1, true));
    fails("line", y, STATE, () -> y.line(1));
    fails("wishRange", y, STATE, () -> y.wishRange(1, true));
    fails("price, the row first", y, INDEX, () -> y.price(2));
    fails("rangeOf, the row first", y, INDEX, () -> y.rangeOf(2, true));
    fails("line, the row first", y, INDEX, () -> y.line(2));
    fails("multiplier, the row first", y, INDEX, () -> y.multiplier(2));
    fails("wishRange, the unknown first", y, INDEX, () -> y.wishRange(2, true));
    fails("way, the unknown first", y, INDEX, () -> y.way(2));
    y.drop(0);
    y.drop(1);
    y.bound(0, 1, 0, 0, -1);
    due("the room is empty", y.corners(), 0);
    due("there is a ray", y.rays(), 1);
    fails("whole", y, STATE, () -> y.whole(2));
  }

  public static void main(String[] args) {
    search();
    asked();
    otherAnswers();
    counted();
    exceptionsOfTelling();
    exceptionsOfAsking();
    Check.end();
  }
}
