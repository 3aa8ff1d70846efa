/** Promise 1: a new object. */
final class NewObjectTest {
  public static void main(String[] args) {
    Due due = new Due();
    NearFinder x = new NearFinder();
    for (int what = 0; what <= 4; what++) {
      due.is("count(" + what + ")", x.count(what), 0);
    }
    due.is("BAD", NearFinder.BAD, -1);
    due.is("worked", x.worked(), 0);
    due.is("found(0)", x.found(0), -1);
    due.is("sum(0)", x.sum(0), -1);
    due.is("sumOf(0)", x.sumOf(0), -1);
    due.is("pair(0, 0)", x.pair(0, 0), -1);
    due.is("changes(0, 0, 0)", x.changes(0, 0, 0), -1);
    due.is("find with nothing asked", x.find(40, 100000), 0);

    Given.entry(x, 3, "ab");
    Given.entry(x, 999, "ab");
    due.isTrue("ask a", x.ask(0, 0));
    due.is("any place: both are found", x.find(40, 100000), 2);

    NearFinder other = new NearFinder();
    due.is("another object's entries", other.count(0), 0);
    due.is("another object's letters asked", other.count(2), 0);
    due.end();
  }
}
