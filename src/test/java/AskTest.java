/** Promises 4 and 5: ask and asked. */
final class AskTest {
  private static final Due DUE = new Due();

  public static void main(String[] args) {
    lettersAsked();
    askingAnew();
    placesAsked();
    DUE.end();
  }

  private static void lettersAsked() {
    NearFinder x = new NearFinder();
    for (int bad : new int[] {-1, Integer.MIN_VALUE, Integer.MAX_VALUE}) {
      DUE.isFalse("ask word " + bad, x.ask(bad, 0));
      DUE.isFalse("ask letter " + bad, x.ask(0, bad));
    }
    DUE.isFalse("ask word 3", x.ask(3, 0));
    DUE.isFalse("ask letter 26", x.ask(0, 26));
    DUE.is("refused letters are none", x.count(2), 0);
    for (int word = 2; word >= 0; word--) {
      for (int i = 0; i < 10; i++) {
        DUE.isTrue("letter " + i + " of word " + word, x.ask(word, 16 + i - word));
      }
      DUE.isFalse("an 11th letter of word " + word, x.ask(word, 0));
    }
    DUE.is("letters asked", x.count(2), 30);
    int entry = Given.entry(x, 0, "qrstuvwxyz", "pqrstuvwxy", "opqrstuvwx");
    for (int word = 0; word < 3; word++) {
      DUE.is("letters of word " + word + " stand one behind the other", x.changes(word, entry, word), 0);
    }
  }

  private static void askingAnew() {
    NearFinder x = new NearFinder();
    Given.entry(x, 7, "ab");
    Given.ask(x, NearFinder.BAD, "ab", "c", "d");
    for (int bad : new int[] {-2, 1000, Integer.MIN_VALUE, Integer.MAX_VALUE}) {
      DUE.isFalse("asked(" + bad + ")", x.asked(bad));
    }
    DUE.is("a refused place leaves the letters", x.count(2), 4);
    DUE.is("a refused place leaves any place", x.find(1, 1000), 1);
    DUE.isTrue("asked(8)", x.asked(8));
    DUE.is("nothing is asked any more", x.count(2), 0);
    DUE.isFalse("asked(1000)", x.asked(1000));
    DUE.isTrue("ask a", x.ask(0, 0));
    DUE.isTrue("ask b", x.ask(0, 1));
    DUE.is("a new word starts at its first letter", x.changes(0, 0, 0), 0);
    DUE.is("words that were asked are gone", x.changes(1, 0, 0), -1);
    DUE.is("a refused place leaves place 8", x.find(1, 1000), 0);
    DUE.isTrue("asked(BAD)", x.asked(NearFinder.BAD));
    DUE.isTrue("ask a", x.ask(0, 0));
    DUE.is("any place again", x.find(1, 1000), 1);
  }

  private static void placesAsked() {
    NearFinder x = new NearFinder();
    Given.entry(x, 0, "a");
    Given.entry(x, 999, "a");
    Given.entry(x, 0, "b");
    Given.ask(x, 0, "a");
    DUE.is("find at place 0", x.find(40, 1000), 2);
    DUE.is("first at place 0", x.found(0), 0);
    DUE.is("second at place 0", x.found(1), 2);
    DUE.is("scan at place 0", x.scan(40, 1000), 2);
    DUE.is("sums of place 0 alone", x.worked(), 2);
    Given.ask(x, 999, "a");
    DUE.is("find at place 999", x.find(40, 1000), 1);
    DUE.is("first at place 999", x.found(0), 1);
    Given.ask(x, 5, "a");
    DUE.is("find at a place without entries", x.find(40, 1000), 0);
    DUE.is("scan at a place without entries", x.scan(40, 1000), 0);
    DUE.is("no sums there", x.worked(), 0);
    Given.ask(x, 0);
    DUE.is("a place alone asks nothing", x.find(40, 1000), 0);
  }
}
