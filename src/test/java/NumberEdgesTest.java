/** Promises 17 and 18, sentence by sentence: share and count. */
final class NumberEdgesTest {
  private static final int BAD = NearFinder.BAD;
  private static final Due DUE = new Due();

  public static void main(String[] args) {
    Sentences document = new Sentences(DUE);
    document.under("Promise 17: share");
    document.holds("A part by all, in thousandths, cut off.", NumberEdgesTest::thousandthsCutOff);
    document.holds("Throws Arithmetic: all is 0.", NumberEdgesTest::throwsArithmetic);

    document.under("Promise 18: count");
    document.holds("0 entries,", NumberEdgesTest::entries);
    document.holds("1 letters in the book,", NumberEdgesTest::lettersInTheBook);
    document.holds("2 letters asked,", NumberEdgesTest::lettersAsked);
    document.holds("3 found ones,", NumberEdgesTest::foundOnes);
    document.holds("4 dropped ones.", NumberEdgesTest::droppedOnes);
    document.holds("BAD: another number.", NumberEdgesTest::anotherNumber);
    document.end();
  }

  private static void share(int part, int all, long want) {
    DUE.is("share(" + part + ", " + all + ")", new NearFinder().share(part, all), want);
  }

  private static void thousandthsCutOff() {
    share(1, 2, 500);
    share(2, 3, 666);
    share(1, 1000, 1);
    share(1, 1001, 0);
    share(999, 1000, 999);
    share(1999, 2000, 999);
    share(0, 5, 0);
    share(5, 5, 1000);
    share(7, 2, 3500);
    share(-2, 3, -666);
    share(2, -3, -666);
    share(-2, -3, 666);
    share(-1, 1001, 0);
    // a thousand times these wraps around in an int
    share(2147483, 1, 2147483000L);
    share(2147484, 1, 2147484000L);
    share(-2147484, 1, -2147484000L);
    share(Integer.MAX_VALUE, 1, 2147483647000L);
    share(Integer.MAX_VALUE, Integer.MAX_VALUE, 1000);
    share(Integer.MIN_VALUE, 1, -2147483648000L);
    share(Integer.MIN_VALUE, -1, 2147483648000L);
    share(Integer.MIN_VALUE, Integer.MIN_VALUE, 1000);
    share(Integer.MIN_VALUE, Integer.MAX_VALUE, -1000);
    share(Integer.MAX_VALUE, Integer.MIN_VALUE, -999);
    share(1, Integer.MIN_VALUE, 0);
  }

  private static void throwsArithmetic() {
    for (int part : new int[] {0, 1, -1, 1000, Integer.MAX_VALUE, Integer.MIN_VALUE}) {
      DUE.isTrue("share(" + part + ", 0) throws", isRefused(new NearFinder(), part));
      State.stays(DUE, "share(" + part + ", 0)", Given::much, x -> isRefused(x, part));
    }
    share(0, 1, 0);
    share(0, -1, 0);
  }

  private static boolean isRefused(NearFinder x, int part) {
    try {
      x.share(part, 0);
      return false;
    } catch (ArithmeticException e) {
      return true;
    }
  }

  private static void entries() {
    NearFinder x = new NearFinder();
    DUE.is("none", x.count(0), 0);
    x.entry(-1);
    x.entry(1000);
    DUE.is("refused ones", x.count(0), 0);
    for (int i = 1; i <= 40; i++) {
      x.entry(i);
      DUE.is("one more", x.count(0), i);
    }
    x.entry(0);
    DUE.is("full", x.count(0), 40);
    x.drop(0, true);
    DUE.is("one is dropped", x.count(0), 40);
  }

  private static void lettersInTheBook() {
    NearFinder x = new NearFinder();
    DUE.is("none", x.count(1), 0);
    x.entry(0);
    x.entry(0);
    DUE.is("entries without words", x.count(1), 0);
    for (int i = 0; i < 33; i++) {
      x.letter(1, i / 11, i % 26);
      DUE.is("letter " + i + ", each 11th is refused", x.count(1), i + 1 - (i + 1) / 11);
    }
    x.letter(0, 0, 0);
    DUE.is("of another entry", x.count(1), 31);
    x.letter(0, 0, 26);
    x.letter(0, 3, 0);
    x.letter(2, 0, 0);
    DUE.is("refused ones", x.count(1), 31);
    x.drop(1, true);
    DUE.is("one is dropped", x.count(1), 31);
    x.ask(0, 0);
    DUE.is("one is asked", x.count(1), 31);
  }

  private static void lettersAsked() {
    NearFinder x = new NearFinder();
    DUE.is("none", x.count(2), 0);
    for (int i = 0; i < 33; i++) {
      x.ask(i / 11, i % 26);
      DUE.is("letter " + i + ", each 11th is refused", x.count(2), i + 1 - (i + 1) / 11);
    }
    x.asked(1000);
    DUE.is("a refused place", x.count(2), 30);
    x.asked(5);
    DUE.is("a place alone", x.count(2), 0);
    x.ask(0, 26);
    x.ask(3, 0);
    DUE.is("refused ones", x.count(2), 0);
    Given.entry(x, 0, "abc");
    DUE.is("letters in the book", x.count(2), 0);
  }

  private static void foundOnes() {
    NearFinder x = new NearFinder();
    DUE.is("none", x.count(3), 0);
    Given.full(x);
    x.find(40, 0);
    DUE.is("all", x.count(3), 40);
    x.find(0, 0);
    x.scan(41, 0);
    x.scan(1, -1);
    DUE.is("refused looks", x.count(3), 40);
    x.scan(7, 0);
    DUE.is("k", x.count(3), 7);
    x.drop(0, true);
    x.asked(BAD);
    DUE.is("they stay", x.count(3), 7);
    x.scan(7, 0);
    DUE.is("with nothing asked", x.count(3), 0);
  }

  private static void droppedOnes() {
    NearFinder x = new NearFinder();
    DUE.is("none", x.count(4), 0);
    x.drop(0, true);
    DUE.is("none such", x.count(4), 0);
    Given.full(x);
    for (int entry = 0; entry < 40; entry++) {
      x.drop(entry, true);
      DUE.is("one more", x.count(4), entry + 1);
    }
    x.drop(0, true);
    DUE.is("one again", x.count(4), 40);
    x.drop(39, false);
    DUE.is("one not any more", x.count(4), 39);
    x.drop(39, false);
    DUE.is("one not any more again", x.count(4), 39);
  }

  private static void anotherNumber() {
    for (int what : Numbers.outside(0, 4)) {
      DUE.is("count(" + what + ")", new NearFinder().count(what), BAD);
      State.stays(DUE, "count(" + what + ")", Given::much, x -> x.count(what));
    }
  }
}
