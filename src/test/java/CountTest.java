/** Promise 18: count. */
final class CountTest {
  public static void main(String[] args) {
    Due due = new Due();
    NearFinder x = new NearFinder();
    Given.entry(x, 1, "ab", "", "c");
    Given.entry(x, 1, "abcd");
    Given.entry(x, 2);
    Given.ask(x, 1, "ab", "", "cde");
    due.is("found", x.find(1, 1000), 1);
    due.is("drop", x.drop(2, true), 0);
    due.is("drop", x.drop(0, true), 0);
    due.is("0 entries, dropped ones too", x.count(0), 3);
    due.is("1 letters in the book, of dropped ones too", x.count(1), 7);
    due.is("2 letters asked", x.count(2), 5);
    due.is("3 found ones", x.count(3), 1);
    due.is("4 dropped ones", x.count(4), 2);
    for (int bad : new int[] {-1, 5, Integer.MIN_VALUE, Integer.MAX_VALUE}) {
      due.is("count(" + bad + ")", x.count(bad), -1);
    }
    x.drop(0, false);
    due.is("4 not dropped any more", x.count(4), 1);
    due.is("scan", x.scan(40, 1000), 2);
    due.is("3 found ones of the scan", x.count(3), 2);
    x.asked(NearFinder.BAD);
    due.is("2 nothing asked", x.count(2), 0);
    due.is("3 found ones stay", x.count(3), 2);
    due.is("a find with nothing asked", x.find(1, 1000), 0);
    due.is("3 none found", x.count(3), 0);
    while (x.count(0) < 40) {
      x.entry(0);
    }
    x.drop(39, true);
    due.is("4 dropped ones of forty", x.count(4), 2);
    due.end();
  }
}
