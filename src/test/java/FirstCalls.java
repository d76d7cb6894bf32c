/** A first look: a small room from its start to its best corner. */
public final class FirstCalls {
  private static int wrong = 0;

  private static void due(String call, Object got, Object want) {
    if (!want.equals(got)) {
      wrong++;
      System.out.println(call + " answered " + got + ", due is " + want);
    }
  }

  public static void main(String[] args) {
    Simplexroom x = new Simplexroom();
    due("bound", x.bound(3, 2, 0, 0, 12), 0);
    due("bound", x.bound(1, 3, 0, 0, 9), 1);
    due("wish", x.wish(1, 1, 5), 2);
    due("run", x.run(0, 20), 2);
    due("house", x.house(4), 1);
    due("step", x.step(0), 0);
    due("value", x.value(), "33/7");
    due("isSound", x.isSound(), true);
    System.exit(wrong == 0 ? 0 : 1);
  }
}
