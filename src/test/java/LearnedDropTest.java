/** Promises 15 and 16: learned and drop. */
final class LearnedDropTest {
  private static final Due DUE = new Due();

  public static void main(String[] args) {
    howOften();
    laterDaysFirst();
    dropping();
    DUE.end();
  }

  private static NearFinder threeAlike() {
    NearFinder x = new NearFinder();
    for (int i = 0; i < 3; i++) {
      Given.entry(x, i, "ab");
    }
    Given.ask(x, NearFinder.BAD, "ab");
    return x;
  }

  private static void order(String what, NearFinder x, int... entries) {
    for (int way = 0; way < 2; way++) {
      DUE.is(what + ": how many", way == 0 ? x.find(3, 0) : x.scan(3, 0), entries.length);
      for (int i = 0; i < entries.length; i++) {
        DUE.is(what + ": found(" + i + ")", x.found(i), entries[i]);
      }
    }
  }

  private static void howOften() {
    NearFinder x = threeAlike();
    for (int bad : new int[] {-1, 3, Integer.MIN_VALUE, Integer.MAX_VALUE}) {
      DUE.is("learned(" + bad + ", 1)", x.learned(bad, 1), -1);
    }
    for (int bad : new int[] {-1, 100001, Integer.MIN_VALUE, Integer.MAX_VALUE}) {
      DUE.is("learned(0, " + bad + ")", x.learned(0, bad), -1);
    }
    DUE.is("first time, least day", x.learned(0, 0), 1);
    DUE.is("second time, greatest day", x.learned(0, 100000), 2);
    DUE.is("third time, the same day", x.learned(0, 100000), 3);
    DUE.is("another one's first time", x.learned(2, 5), 1);
    x.drop(1, true);
    DUE.is("a dropped one's first time", x.learned(1, 5), 1);
  }

  private static void laterDaysFirst() {
    NearFinder x = threeAlike();
    order("never learned: lesser entries", x, 0, 1, 2);
    x.learned(2, 0);
    order("never is before day 0", x, 2, 0, 1);
    x.learned(1, 0);
    order("like days: lesser entries", x, 1, 2, 0);
    x.learned(0, 9);
    x.learned(2, 8);
    order("later days first", x, 0, 2, 1);
    x.learned(0, 7);
    order("the day told last counts", x, 2, 0, 1);
    x.learned(0, 100001);
    x.learned(0, -1);
    order("a refused day is not told", x, 2, 0, 1);

    DUE.is("one of like ones", x.find(1, 0), 1);
    DUE.is("the one learned last", x.found(0), 2);
    DUE.is("like least sums are all worked out", x.worked(), 3);

    NearFinder y = threeAlike();
    Given.entry(y, 0, "abc");
    y.learned(3, 100);
    DUE.is("four", y.find(4, 100), 4);
    DUE.is("a lesser sum is before a later day", y.found(3), 3);
  }

  private static void dropping() {
    NearFinder x = threeAlike();
    for (int bad : new int[] {-1, 3, Integer.MIN_VALUE, Integer.MAX_VALUE}) {
      DUE.is("drop(" + bad + ", true)", x.drop(bad, true), -1);
      DUE.is("drop(" + bad + ", false)", x.drop(bad, false), -1);
    }
    DUE.is("not dropped, not dropped", x.drop(0, false), 0);
    DUE.is("it was not dropped", x.drop(0, true), 0);
    DUE.is("it was dropped", x.drop(0, true), 1);
    order("dropped ones are not found", x, 1, 2);
    DUE.is("their sums are not worked out", x.worked(), 2);
    DUE.is("the sum of a dropped one", x.sumOf(0), 0);
    DUE.is("the pair of a dropped one", x.pair(0, 0), 0);
    DUE.is("changes to a dropped one", x.changes(0, 0, 0), 0);
    DUE.is("not any more: it was", x.drop(0, false), 1);
    order("found again", x, 0, 1, 2);
    DUE.is("now it was not", x.drop(0, true), 0);
  }
}
