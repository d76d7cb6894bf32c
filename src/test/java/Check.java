/** What the tests share: asks, tells what is wrong, and counts it. */
final class Check {
  static int wrong = 0;

  private Check() { }

  interface Call {
    Object ask();
  }

  static void due(String what, Object got, Object want) {
    if (!want.equals(got)) {
      wrong++;
      System.out.println(what + " answered " + got + ", due is " + want);
    }
  }

  /** All that an object tells of itself without a witness. */
  static String whole(Simplexroom x) {
    StringBuilder all = new StringBuilder();
    for (int what = 0; what <= 12; what++) {
      all.append(x.house(what)).append(',');
    }
    for (int bound = 0; bound < 6; bound++) {
      for (int what = 0; (x.house(2) >> bound & 1) == 1 && what <= 5; what++) {
        all.append(x.ofBound(bound, what)).append(',');
      }
    }
    for (int v = 0; v < x.house(0) + x.house(3); v++) {
      all.append(x.number(v)).append(' ').append(x.factor(-1, v)).append(',');
    }
    return all.append(x.value()).append(' ').append(x.digest()).toString();
  }

  /** The call throws such an exception, and changes nothing. */
  static void fails(String what, Simplexroom x, Class<?> kind, Call call) {
    String before = whole(x);
    String got = "no exception";
    try {
      call.ask();
    } catch (RuntimeException e) {
      got = e.getClass().getSimpleName();
    }
    due(what, got, kind.getSimpleName());
    due("all behind " + what, whole(x), before);
  }

  static int[] of(int... numbers) {
    return numbers;
  }

  /** A room of a width with a wish and bounds (three factors, kind, right). */
  static Simplexroom room(int width, int[] wish, int[]... bounds) {
    Simplexroom x = new Simplexroom();
    x.wide(width);
    for (int[] b : bounds) {
      x.bound(b[0], b[1], b[2], b[3], b[4]);
    }
    x.wish(wish[0], wish[1], wish[2]);
    return x;
  }

  static void end() {
    System.exit(wrong == 0 ? 0 : 1);
  }
}
