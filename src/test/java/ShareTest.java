/** Promise 17: share. */
final class ShareTest {
  private static final Due DUE = new Due();

  public static void main(String[] args) {
    share(1, 3, 333);
    share(2, 3, 666);
    share(0, 7, 0);
    share(7, 7, 1000);
    share(5, 2, 2500);
    share(1, 1001, 0);
    share(1999, 2000, 999);
    share(-1, 3, -333);
    share(-2, 3, -666);
    share(2, -3, -666);
    share(-2, -3, 666);
    share(Integer.MAX_VALUE, 1, 2147483647000L);
    share(Integer.MIN_VALUE, 1, -2147483648000L);
    share(Integer.MIN_VALUE, -1, 2147483648000L);
    share(Integer.MIN_VALUE, Integer.MIN_VALUE, 1000);
    share(Integer.MAX_VALUE, Integer.MIN_VALUE, -999);
    share(1, Integer.MAX_VALUE, 0);
    for (int part : new int[] {0, 1, -1, Integer.MAX_VALUE, Integer.MIN_VALUE}) {
      throwsArithmetic(part);
    }
    DUE.end();
  }

  private static void share(int part, int all, long want) {
    DUE.is("share(" + part + ", " + all + ")", new NearFinder().share(part, all), want);
  }

  private static void throwsArithmetic(int part) {
    boolean thrown = false;
    try {
      new NearFinder().share(part, 0);
    } catch (ArithmeticException e) {
      // The machine's own exception of a division has this text: the class must throw before it divides.
      thrown = !"/ by zero".equals(e.getMessage());
    }
    DUE.isTrue("share(" + part + ", 0) throws", thrown);
  }
}
