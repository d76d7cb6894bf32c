import java.math.BigInteger;

/** The boundaries that the document names of corners, rays, whole numbers, bounds that matter, checksums. */
public final class EdgeRoomTests {
  private static final Class<?> INDEX = IndexOutOfBoundsException.class;
  private static final Class<?> STATE = IllegalStateException.class;

  private EdgeRoomTests() { }

  private static void due(String what, Object got, Object want) {
    Check.due(what, got, want);
  }

  private static int[] of(int... numbers) {
    return numbers;
  }

  private static Simplexroom room(int width, int[] wish, int[]... bounds) {
    return Check.room(width, wish, bounds);
  }

  private static String corners(Simplexroom x) {
    StringBuilder all = new StringBuilder();
    for (int nth = 0; nth < x.corners(); nth++) {
      all.append(nth == 0 ? "" : ", ").append(x.corner(nth));
    }
    return all.toString();
  }

  private static String rays(Simplexroom x) {
    StringBuilder all = new StringBuilder();
    for (int nth = 0; nth < x.rays(); nth++) {
      all.append(nth == 0 ? "" : ", ").append(x.ray(nth));
    }
    return all.toString();
  }

  private static String whole(Simplexroom x) {
    return x.whole(0) + " at " + x.whole(1) + " by " + x.whole(2);
  }

  // ---- a room without BOUNDS

  private static void withoutBounds() {
    String[] corner = {"0", "0 0", "0 0 0"};
    String[] ray = {"1", "0 1, 1 0", "0 0 1, 0 1 0, 1 0 0"};
    for (int width = 1; width <= 3; width++) {
      Simplexroom x = room(width, of(1, 0, -1));
      due("corners", corners(x), corner[width - 1]);
      due("rays", rays(x), ray[width - 1]);
      due("one is best", x.best(false) * 10 + x.best(true), 11);
      due("its middle", x.middle(), corner[width - 1]);
      Check.fails("whole", x, STATE, () -> x.whole(2));
      due("needless", x.needless(), 0);
      due("fewest", x.fewest(), 0);
      Check.fails("would", x, INDEX, () -> x.would(0, 0));
      due("sound", x.isSound(), true);
      due("ever", x.step(0), 4);
      due("sound still", x.isSound(), true);
    }
  }

  // ---- a room with a bound that cannot hold

  private static void oneThatCannotHold() {
    for (int[] bad : new int[][] {of(0, 0, 0, 0, -1), of(0, 0, 0, 1, 1), of(0, 0, 0, 2, 1), of(0, 0, 0, 2, -1),
        of(1, 1, 1, 0, -1), of(-1, -1, -1, 1, 1), of(-1, -9, 0, 2, 99)}) {
      Simplexroom x = room(3, of(1, 1, 1), of(1, 1, 1, 0, 5), bad);
      due("no corner", x.corners(), 0);
      due("no ray", x.rays(), 0);
      due("none is best", x.best(false), 0);
      due("an empty set", x.best(true), 0);
      due("no middle", x.middle(), "");
      due("no whole one", whole(x), "! at ! by 1");
      due("all but that one are needless", x.needless(), 1);
      due("that one alone", x.fewest(), 2);
      due("nothing would help", x.would(0, 99), "!");
      Check.fails("corner", x, INDEX, () -> x.corner(0));
      due("none", x.run(1, 20) + x.house(4), 3);
      due("sound", x.isSound(), true);
    }
    Simplexroom open = room(2, of(1, 0, 0), of(0, 0, 0, 0, -1));
    due("rays by rights of 0", rays(open), "0 1, 1 0");
    due("no corner though", open.corners(), 0);
    Check.fails("a ray is a ray", open, STATE, () -> open.whole(0));
    due("it would grow for ever", open.would(0, 0), "+");
    due("without corners that goes ahead", open.would(0, -1), "!");
    due("not needless", open.needless(), 0);
    due("it alone", open.fewest(), 1);
  }

  private static void zeroFactorsThatHold() {
    Simplexroom x = room(2, of(1, 1, 0), of(0, 0, 0, 0, 0), of(0, 0, 0, 1, 0), of(0, 0, 0, 2, 0), of(1, 1, 0, 0, 3));
    due("they make no corner", corners(x), "0 0, 0 3, 3 0");
    due("nor shut out a ray", x.rays(), 0);
    due("they are needless", x.needless(), 7);
    x.drop(3);
    due("nor have they a ray", rays(x), "0 1, 1 0");
    due("all are needless", x.needless(), 7);
  }

  // ---- "UNKNOWNS .., none of which is below 0"

  private static void noUnknownIsBelowZero() {
    due("none to the left", corners(room(1, of(0, 0, 0), of(1, 0, 0, 0, 2), of(1, 0, 0, 1, -2))), "0, 2");
    due("0 is the last one", corners(room(1, of(0, 0, 0), of(1, 0, 0, 0, 0))), "0");
    due("-1 is too little", corners(room(1, of(0, 0, 0), of(1, 0, 0, 0, -1))), "");
    due("that cannot hold", room(1, of(0, 0, 0), of(1, 0, 0, 0, -1)).fewest(), 1);
    due("told by a bound it is needless", room(2, of(0, 0, 0), of(0, 1, 0, 1, 0), of(-1, 0, 0, 0, 0)).needless(), 3);
    due("not if it is above 0", room(2, of(0, 0, 0), of(0, 1, 0, 1, 1), of(-1, 0, 0, 0, -1)).needless(), 0);
  }

  // ---- "0 no more than, 1 no less than, 2 the same as"

  private static void kindsAtTheirRight() {
    due("no more than", corners(room(1, of(0, 0, 0), of(2, 0, 0, 0, 3))), "0, 3/2");
    due("no less than", corners(room(1, of(0, 0, 0), of(2, 0, 0, 1, 3))), "3/2");
    due("the same", corners(room(1, of(0, 0, 0), of(2, 0, 0, 2, 3))), "3/2");
    due("both ends at one point", corners(room(1, of(0, 0, 0), of(2, 0, 0, 0, 3), of(2, 0, 0, 1, 3))), "3/2");
    due("one apart", corners(room(1, of(0, 0, 0), of(2, 0, 0, 0, 3), of(2, 0, 0, 1, 4))), "");
    due("rays of no more than", rays(room(1, of(0, 0, 0), of(2, 0, 0, 0, 3))), "");
    due("rays of no less than", rays(room(1, of(0, 0, 0), of(2, 0, 0, 1, 3))), "1");
    due("rays of the same", rays(room(1, of(0, 0, 0), of(2, 0, 0, 2, 3))), "");
  }

  // ---- "CORNERS are numbered in ORDER"

  private static void order() {
    due("by size, not by text", corners(room(1, of(0, 0, 0), of(1, 0, 0, 1, 9), of(1, 0, 0, 0, 10))), "9, 10");
    due("fractions too", corners(room(1, of(0, 0, 0), of(3, 0, 0, 1, 1), of(2, 0, 0, 0, 1))), "1/3, 1/2");
    due("the first unknown goes ahead", corners(room(3, of(0, 0, 0), of(1, 0, 0, 0, 2), of(0, 1, 0, 0, 1),
        of(0, 0, 1, 0, 3))), "0 0 0, 0 0 3, 0 1 0, 0 1 3, 2 0 0, 2 0 3, 2 1 0, 2 1 3");
    due("rays too", rays(room(3, of(0, 0, 0), of(1, -1, 0, 0, 9), of(0, 0, 1, 2, 9))), "0 1 0, 1/2 1/2 0");
  }

  /** "the only solution of as many equations as there are UNKNOWNS" */
  private static void theOnlySolution() {
    due("a line without its ends is no corner", corners(room(2, of(0, 0, 0), of(1, -1, 0, 2, 0))), "0 0");
    due("parallel ones make none", corners(room(2, of(0, 0, 0), of(1, 1, 0, 0, 2), of(1, 1, 0, 1, 1))),
        "0 1, 0 2, 1 0, 2 0");
    due("one of many equations counts once", corners(room(2, of(0, 0, 0), of(1, 1, 0, 0, 2), of(2, 2, 0, 0, 4),
        of(1, 0, 0, 0, 2), of(1, 2, 0, 0, 4), of(0, 1, 0, 0, 2), of(2, 1, 0, 0, 4))), "0 0, 0 2, 2 0");
    due("one point alone", corners(room(3, of(0, 0, 0), of(1, 1, 1, 0, 0))), "0 0 0");
    due("which has no ray", rays(room(3, of(0, 0, 0), of(1, 1, 1, 0, 0))), "");
    due("its rays have 1 as their sum", rays(room(3, of(0, 0, 0), of(1, -9, 0, 1, 3), of(0, 1, -9, 1, 3))),
        "81/91 9/91 1/91, 9/10 1/10 0, 1 0 0");
  }

  // ---- "best() .. (0 without CORNERS)", "the set of the first 30 of them", "middle .. '' without CORNERS"

  private static void bestAndMiddle() {
    Simplexroom none = room(2, of(1, 1, 0), of(1, 1, 0, 0, -1));
    due("without corners", none.best(false) + none.best(true) + none.middle(), "0");
    Simplexroom x = room(2, of(0, 0, 0), of(1, 0, 0, 0, 1), of(0, 1, 0, 0, 1));
    due("all four", x.best(false) * 100 + x.best(true), 415);
    due("their middle", x.middle(), "1/2 1/2");
    x.wish(1, 0, 0);
    due("two", x.best(false) * 100 + x.best(true), 212);
    due("between them", x.middle(), "1 1/2");
    x.wish(1, 1, 0);
    due("one", x.best(false) * 100 + x.best(true), 108);
    due("that one", x.middle(), "1 1");
    // six bounds of three unknowns leave 14 corners at most: all are in the set
    Simplexroom most = room(3, of(0, 0, 0), of(4, 4, 2, 0, 52), of(1, 3, 2, 0, 42), of(4, 5, 0, 0, 54),
        of(3, -1, -1, 0, 3), of(0, 2, 0, 0, 19), of(4, -1, 1, 0, 23));
    due("fourteen", most.best(false), 14);
    due("all fourteen", most.best(true), (1 << 14) - 1);
  }

  // ---- "if the TASK has no CORNER, or .. is no more than the greatest one that was found: LEFT"

  private static void tasksThatAreLeft() {
    due("whole at once", whole(room(1, of(1, 0, 0), of(1, 0, 0, 0, 3))), "3 at 3 by 1");
    due("0 at once", whole(room(3, of(1, 1, 1), of(1, 1, 1, 0, 0))), "0 at 0 0 0 by 1");
    due("no corner", whole(room(1, of(1, 0, 0), of(1, 0, 0, 0, -1))), "! at ! by 1");
    // 0 3/2, then 1/2 1, then 0 1 is found; 1 0 comes later with the same value and is left
    due("the same value is left", whole(room(2, of(1, 1, 0), of(2, 2, 0, 0, 3))), "1 at 0 1 by 9");
    due("all are below 0", whole(room(1, of(-1, 0, 0), of(2, 0, 0, 1, 3), of(1, 0, 0, 0, 9))), "-2 at 2 by 3");
    // 0 1 is found with 5, then 2 0 with 6
    due("the one that was found last", whole(room(2, of(3, 5, 0), of(2, 3, 0, 0, 4))), "6 at 2 0 by 7");
    due("the last of four", whole(room(2, of(5, 4, 0), of(5, 4, 0, 0, 19))), "19 at 3 1 by 13");
    due("a value of 0 counts as one", whole(room(1, of(0, 0, 0), of(2, 0, 0, 2, 3))), "! at ! by 3");
  }

  /** "no more than the greatest whole number below x, then .. no less than the smallest above" */
  private static void partsOfATask() {
    due("between 0 and 1", whole(room(1, of(1, 0, 0), of(2, 0, 0, 0, 1))), "0 at 0 by 3");
    due("above 1", whole(room(1, of(1, 0, 0), of(2, 0, 0, 0, 3))), "1 at 1 by 3");
    due("above it", whole(room(1, of(-1, 0, 0), of(2, 0, 0, 1, 1), of(1, 0, 0, 0, 5))), "-1 at 1 by 3");
    due("far off", whole(room(1, of(9, 0, 0), of(2, 0, 0, 0, 99))), "441 at 49 by 3");
    due("the second unknown, if the first one is whole", whole(room(2, of(0, 1, 0), of(1, 0, 0, 0, 3),
        of(0, 2, 0, 0, 3))), "1 at 0 1 by 3");
    due("the third one", whole(room(3, of(1, 1, 1), of(1, 0, 0, 0, 1), of(0, 1, 0, 0, 1), of(0, 0, 3, 0, 5))),
        "3 at 1 1 1 by 3");
  }

  // ---- "At most 20 TASKS are taken from the queue; with more .. (MANY)"

  private static void twentyTasksAtMost() {
    // each task is parted in two or in none: their number is odd
    due("17", whole(room(2, of(7, 5, 0), of(4, 4, 0, 2, 13))), "! at ! by 17");
    due("19", whole(room(2, of(2, 9, 0), of(4, 2, 0, 2, 21), of(3, 4, 0, 0, 33))), "! at ! by 19");
    due("19 with one", whole(room(2, of(-2, 9, 0), of(6, 7, 0, 2, 30))), "-10 at 5 0 by 19");
    due("19 of three unknowns", whole(room(3, of(0, -1, 6), of(-2, 2, -3, 0, 12), of(0, 2, -3, 2, 9),
        of(-3, 3, -1, 2, 36), of(1, -3, 0, 0, 55), of(3, 0, -1, 0, 24))), "63 at 10 27 15 by 19");
    due("21 are many", whole(room(2, of(7, 5, 0), of(4, 4, 0, 2, 17))), "? at ? by 20");
    due("21 with one that was found", whole(room(2, of(9, 9, 0), of(-2, -1, 0, 0, 8), of(0, 1, 0, 0, 30),
        of(5, 5, 0, 0, 24))), "? at ? by 20");
    due("23 are many", whole(room(3, of(5, 8, 7), of(3, 4, 4, 0, 30), of(4, 3, 3, 0, 11))), "? at ? by 20");
    Simplexroom x = room(2, of(7, 5, 0), of(4, 4, 0, 2, 17));
    due("many, again and again", whole(x) + whole(x), "? at ? by 20? at ? by 20");
    x.right(0, 16);
    due("not many any more", whole(x), "28 at 4 0 by 1");
  }

  // ---- "NEEDLESS, if the ROOM without it (all others there) is the same"

  private static void needless() {
    due("none of none", room(2, of(1, 1, 0)).needless(), 0);
    due("all six", room(2, of(0, 0, 0), of(-1, 0, 0, 0, 0), of(0, -1, 0, 0, 0), of(0, 0, 0, 0, 0), of(0, 0, 0, 1, 0),
        of(0, 0, 0, 2, 0), of(-1, -1, 0, 0, 5)).needless(), 63);
    due("all six, each the same as another", room(1, of(0, 0, 0), of(1, 0, 0, 0, 1), of(1, 0, 0, 0, 1),
        of(2, 0, 0, 0, 2), of(3, 0, 0, 0, 3), of(-1, 0, 0, 1, -1), of(9, 0, 0, 0, 9)).needless(), 63);
    due("none of six", room(3, of(0, 0, 0), of(1, 0, 0, 0, 5), of(0, 1, 0, 0, 5), of(0, 0, 1, 0, 5),
        of(1, 1, 0, 0, 9), of(0, 1, 1, 0, 9), of(1, 0, 1, 0, 9)).needless(), 0);
    due("it touches", room(1, of(0, 0, 0), of(1, 0, 0, 0, 3), of(2, 0, 0, 0, 6)).needless(), 3);
    due("it cuts by little", room(1, of(0, 0, 0), of(1, 0, 0, 0, 3), of(2, 0, 0, 0, 5)).needless(), 1);
    due("it shuts out a ray alone", room(2, of(0, 0, 0), of(0, 1, 0, 0, 3), of(1, -9, 0, 0, 0)).needless(), 0);
    due("a room of rays is the same", room(2, of(0, 0, 0), of(1, -1, 0, 0, 0), of(1, -2, 0, 0, 0)).needless(), 2);
    due("the numbers of the bounds", needlessWithGap(), 8);
  }

  private static int needlessWithGap() {
    Simplexroom x = room(1, of(0, 0, 0), of(9, 0, 0, 0, 1), of(8, 0, 0, 0, 1), of(1, 0, 0, 0, 2), of(1, 0, 0, 0, 3));
    x.drop(0);
    x.drop(1);
    return x.needless();
  }

  // ---- "FEWEST: .. of several that with the smallest number as a set"; "0, if the ROOM has a POINT"

  private static void fewest() {
    due("a single point is one", room(1, of(0, 0, 0), of(1, 0, 0, 2, 0)).fewest(), 0);
    due("the last number alone", room(2, of(0, 0, 0), of(1, 0, 0, 0, 5), of(0, 1, 0, 0, 5), of(1, 1, 0, 0, 5),
        of(1, 2, 0, 0, 5), of(2, 1, 0, 0, 5), of(1, 1, 0, 0, -1)).fewest(), 32);
    due("the smaller one of two", room(1, of(0, 0, 0), of(1, 0, 0, 0, 1), of(1, 0, 0, 0, -1), of(1, 0, 0, 0, -2)).fewest(), 2);
    due("the smallest one of six", room(1, of(0, 0, 0), of(1, 0, 0, 0, -1), of(1, 0, 0, 0, -1), of(1, 0, 0, 0, -1),
        of(1, 0, 0, 0, -1), of(1, 0, 0, 0, -1), of(1, 0, 0, 0, -1)).fewest(), 1);
    // 1 with 2 and 0 with 3 cannot hold: 6 is a smaller number than 9
    due("the smaller number as a set", room(2, of(0, 0, 0), of(1, 0, 0, 0, 1), of(0, 1, 0, 0, 1), of(0, 1, 0, 1, 2),
        of(1, 0, 0, 1, 2)).fewest(), 6);
    due("three", room(2, of(0, 0, 0), of(1, 0, 0, 0, 1), of(0, 1, 0, 0, 1), of(1, 1, 0, 1, 3)).fewest(), 7);
    due("they touch", room(2, of(0, 0, 0), of(1, 0, 0, 0, 1), of(0, 1, 0, 0, 1), of(1, 1, 0, 1, 2)).fewest(), 0);
    due("four", room(3, of(0, 0, 0), of(1, 0, 0, 0, 1), of(0, 1, 0, 0, 1), of(9, 9, 9, 0, 99), of(0, 0, 1, 0, 1),
        of(1, 1, 1, 1, 4)).fewest(), 27);
    due("two that are the same as other numbers", room(2, of(0, 0, 0), of(1, 1, 0, 2, 3), of(1, 1, 0, 2, 4)).fewest(), 3);
  }

  // ---- "'!' without CORNERS (that goes ahead); '+' if the VALUE would grow for ever"

  private static void would() {
    Simplexroom x = room(2, of(1, 1, 0), of(1, -1, 0, 0, 1), of(-1, 1, 0, 0, 1));
    due("ever", x.would(0, 1), "+");
    due("at one point of each", x.would(0, -1), "+");
    due("no corner goes ahead of ever", x.would(0, -2), "!");
    x.wish(1, -1, 0);
    due("not for ever along it", x.would(0, -1), "-1");
    due("a fraction", room(2, of(1, 1, 0), of(3, 2, 0, 0, 0), of(1, 3, 0, 0, 9)).would(0, 12), "33/7");
    due("0", room(2, of(1, 1, 0), of(3, 2, 0, 0, 12)).would(0, 0), "0");
    due("no corner", room(2, of(1, 1, 0), of(3, 2, 0, 0, 12)).would(0, -1), "!");
    due("a bound of kind 1", room(1, of(-1, 0, 0), of(2, 0, 0, 1, 3)).would(0, 5), "-5/2");
    due("a bound of kind 2", room(1, of(-1, 0, 0), of(2, 0, 0, 2, 3)).would(0, 99), "-99/2");
    due("it may help", room(1, of(1, 0, 0), of(1, 0, 0, 0, -1)).would(0, 4), "4");
    due("the last bound of six", room(1, of(1, 0, 0), of(1, 0, 0, 0, 90), of(1, 0, 0, 0, 91), of(1, 0, 0, 0, 92),
        of(1, 0, 0, 0, 93), of(1, 0, 0, 0, 94), of(1, 0, 0, 0, 7)).would(5, 99), "90");
  }

  // ---- "isSound": each answer, and none yet with a BASIC at 0 and below

  private static void sound() {
    Simplexroom below = room(2, of(1, 1, 0), of(1, 1, 0, 1, 5), of(1, 2, 0, 0, 14));
    due("a basic is below 0", below.isSound(), true);
    below.step(0);
    due("none is any more", below.isSound(), true);
    below.run(0, 20);
    due("best", below.house(4) + " " + below.isSound(), "1 true");
    Simplexroom flat = room(2, of(1, 1, 0), of(1, 1, 0, 0, 0));
    due("all at 0", flat.isSound(), true);
    flat.run(0, 20);
    due("best at 0", flat.house(4) + " " + flat.isSound(), "1 true");
    Simplexroom many = room(3, of(1, 2, 3));
    many.run(2, 1);
    due("ever without bounds", many.house(4) + " " + many.isSound(), "2 true");
    Simplexroom none = room(3, of(1, 2, 3), of(0, 0, 0, 2, 99));
    none.run(2, 1);
    due("none by a bound without factors", none.house(4) + " " + none.isSound(), "3 true");
  }

  // ---- "d becomes d * 31 + v, which wraps around as a 64-bit integer"

  private static long digestOf(long... numbers) {
    BigInteger d = BigInteger.valueOf(6841);
    for (long v : numbers) {
      d = d.multiply(BigInteger.valueOf(31)).add(BigInteger.valueOf(v));
    }
    due("beyond 64 bits", d.abs().bitLength() > 64, true);
    BigInteger around = d.mod(BigInteger.ONE.shiftLeft(64));
    BigInteger half = BigInteger.ONE.shiftLeft(63);
    return (around.compareTo(half) < 0 ? around : around.subtract(half.shiftLeft(1))).longValueExact();
  }

  private static void digests() {
    due("a new one", new Simplexroom().digest(),
        digestOf(2, 0, 0, 0, 0, 0, 0, -1, 0, 0, 0, 0, 0, 1, 1, 1, 1, 3, 2, 1, 1, 3, 1));
    Simplexroom one = room(1, of(0, 0, 0));
    due("of one unknown", one.digest(), digestOf(1, 0, 0, 0, 0, 0, 0, -1, 0, 0, 0, 0, 0, 1, 1, 1, 1, 1, 1, 1, 1, 1));
    one.run(0, 20);
    due("with best and no rows", one.digest(),
        digestOf(1, 0, 0, 0, 1, 0, 0, -1, 0, 0, 0, 0, 0, 1, 1, 1, 1, 1, 1, 1, 1, 1, 1, 1));
    Simplexroom none = room(1, of(-9, 0, 0), of(0, 0, 0, 0, 99), of(1, 0, 0, 2, -99));
    none.drop(0);
    none.run(0, 20);
    none.blank();
    due("none, without a corner and a middle", none.digest(), digestOf(1, 1, 2, 2, 3, 0, 6, -1, 1, 0, -9, 0, 0,
        1, 1, 0, 0, 2, -99, 0, 1, 1, 3, 2, 1, 1, 0, 0, 0, 0, 0, 1));
    Simplexroom half = room(1, of(3, 0, 0), of(-2, 0, 0, 1, -7));
    half.run(0, 20);
    due("best at a half", half.digest(), digestOf(1, 1, 1, 1, 1, 1, 1, -1, 0, 0, 3, 0, 0,
        0, -2, 0, 0, 1, -7, 0, 4, 3, 1, 3, 1, 1, 1, 1, 2, 1, 0, 1, 2, 3, 1));
    due("twice the same", half.digest(), half.digest());
  }

  /** Worked out apart from Java, modulo 2^64. */
  private static void digestsWrapAround() {
    due("above 0", new Simplexroom().digest(), 1200929605951992679L);
    Simplexroom one = room(1, of(0, 0, 0));
    due("below 0", one.digest(), -7766171594067416616L);
    one.run(0, 1);
    due("above 0 again", one.digest(), 5880119370267535959L);
  }

  public static void main(String[] args) {
    withoutBounds();
    oneThatCannotHold();
    zeroFactorsThatHold();
    noUnknownIsBelowZero();
    kindsAtTheirRight();
    order();
    theOnlySolution();
    bestAndMiddle();
    tasksThatAreLeft();
    partsOfATask();
    twentyTasksAtMost();
    needless();
    fewest();
    would();
    sound();
    digests();
    digestsWrapAround();
    Check.end();
  }
}
