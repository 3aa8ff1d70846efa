/** Promises 7 to 11: find, scan, worked, found and sum. */
final class FindTest {
  private static final Due DUE = new Due();

  public static void main(String[] args) {
    refusedCalls();
    nothingAsked();
    nearestFirst();
    boundsThatCountLetters();
    countsStartAnew();
    boundsByTheLeastWay();
    boundsByTheLastOne();
    fortyEntries();
    DUE.end();
  }

  private static NearFinder book(String... firstWords) {
    NearFinder x = new NearFinder();
    for (String word : firstWords) {
      Given.entry(x, 1, word);
    }
    return x;
  }

  private static void looked(String what, NearFinder x, int... entriesAndSums) {
    DUE.is(what + ": count(3)", x.count(3), entriesAndSums.length / 2);
    for (int i = 0; i < entriesAndSums.length / 2; i++) {
      DUE.is(what + ": found(" + i + ")", x.found(i), entriesAndSums[2 * i]);
      DUE.is(what + ": sum(" + i + ")", x.sum(i), entriesAndSums[2 * i + 1]);
    }
    for (int bad : new int[] {-1, entriesAndSums.length / 2, 40, Integer.MIN_VALUE, Integer.MAX_VALUE}) {
      DUE.is(what + ": found(" + bad + ")", x.found(bad), -1);
      DUE.is(what + ": sum(" + bad + ")", x.sum(bad), -1);
    }
  }

  private static void found(NearFinder x, int k, int bound, int worked, int... entriesAndSums) {
    String what = "find(" + k + ", " + bound + ")";
    DUE.is(what, x.find(k, bound), entriesAndSums.length / 2);
    DUE.is(what + ": worked", x.worked(), worked);
    looked(what, x, entriesAndSums);
  }

  private static void scanned(NearFinder x, int k, int bound, int worked, int... entriesAndSums) {
    String what = "scan(" + k + ", " + bound + ")";
    DUE.is(what, x.scan(k, bound), entriesAndSums.length / 2);
    DUE.is(what + ": worked", x.worked(), worked);
    looked(what, x, entriesAndSums);
  }

  private static void refusedCalls() {
    NearFinder x = book("ab", "abc", "q");
    Given.ask(x, NearFinder.BAD, "ab");
    DUE.is("scan", x.scan(2, 10), 2);
    int[][] refused = {
      {0, 0}, {-1, 0}, {41, 0}, {Integer.MIN_VALUE, 5}, {Integer.MAX_VALUE, 5},
      {1, -1}, {40, Integer.MIN_VALUE}, {0, -1},
    };
    for (int[] call : refused) {
      String what = "(" + call[0] + ", " + call[1] + ")";
      DUE.is("find" + what, x.find(call[0], call[1]), -1);
      DUE.is("scan" + what, x.scan(call[0], call[1]), -1);
      DUE.is("worked stays after " + what, x.worked(), 3);
      looked("what was found stays after " + what, x, 0, 0, 1, 10);
    }
    x.asked(NearFinder.BAD);
    DUE.is("a refused find with nothing asked", x.find(0, 0), -1);
    DUE.is("a refused scan with nothing asked", x.scan(1, -1), -1);
    looked("what was found stays with nothing asked", x, 0, 0, 1, 10);
  }

  private static void nothingAsked() {
    NearFinder x = book("ab", "");
    Given.ask(x, NearFinder.BAD, "ab");
    found(x, 40, 0, 1, 0, 0);
    x.asked(NearFinder.BAD);
    found(x, 40, 1000, 0);
    Given.ask(x, NearFinder.BAD, "ab");
    scanned(x, 40, 0, 2, 0, 0);
    x.asked(1);
    scanned(x, 40, 1000, 0);
    x.ask(2, 0);
    found(x, 40, 1000, 2, 0, 10, 1, 60);
  }

  private static void nearestFirst() {
    NearFinder x = book("abcd", "abc", "aec", "ab", "apc", "");
    Given.ask(x, NearFinder.BAD, "abc");
    int[] all = {1, 0, 4, 5, 0, 10, 3, 10, 2, 15, 5, 60};
    found(x, 40, 60, 6, all);
    scanned(x, 40, 60, 6, all);
    found(x, 6, Integer.MAX_VALUE, 6, all);
    found(x, 40, 10, 5, 1, 0, 4, 5, 0, 10, 3, 10);
    scanned(x, 40, 10, 6, 1, 0, 4, 5, 0, 10, 3, 10);
    found(x, 40, 9, 5, 1, 0, 4, 5);
    scanned(x, 3, 60, 6, 1, 0, 4, 5, 0, 10);
    scanned(x, 1, 0, 6, 1, 0);
    x.learned(3, 1);
    scanned(x, 3, 60, 6, 1, 0, 4, 5, 3, 10);
    x.drop(1, true);
    scanned(x, 40, 5, 5, 4, 5);
    x.letter(4, 1, 0);
    looked("as it was found", x, 4, 5);
    scanned(x, 40, 65, 5, 3, 10, 0, 10, 2, 15, 5, 60, 4, 65);
  }

  private static void boundsThatCountLetters() {
    NearFinder x = book("abcd");
    Given.ask(x, NearFinder.BAD, "abc");
    found(x, 1, 4, 0);
    scanned(x, 1, 4, 1);
    found(x, 1, 5, 1);
    found(x, 1, 9, 1);
    found(x, 1, 10, 1, 0, 10);
    Given.ask(x, NearFinder.BAD, "abcde");
    found(x, 1, 4, 0);
    found(x, 1, 5, 1);
    Given.ask(x, NearFinder.BAD, "dcba");
    found(x, 1, 0, 1);

    x = book("b", "aab", "eeb", "abb");
    x.weight(0, 7);
    x.weight(1, 9);
    x.weight(2, 30);
    x.weight(3, 40);
    for (int entry = 1; entry < 4; entry++) {
      x.drop(entry, true);
    }
    Given.ask(x, NearFinder.BAD, "aab");
    found(x, 1, 17, 0);
    found(x, 1, 18, 1, 0, 18);
    x.weight(2, 8);
    found(x, 1, 15, 0);
    found(x, 1, 16, 1);
    x.weight(2, 30);
    x.weight(3, 3);
    found(x, 1, 5, 0);
    found(x, 1, 6, 1);
    x.weight(3, 40);
    only(x, 2);
    found(x, 1, 17, 0);
    found(x, 1, 18, 1);
    found(x, 1, 32, 1, 2, 32);
    x.weight(0, 10);
    found(x, 1, 19, 0);
    found(x, 1, 20, 1);
    x.weight(0, 7);
    only(x, 3);
    found(x, 1, 8, 0);
    found(x, 1, 9, 1);
    Given.ask(x, NearFinder.BAD, "b");
    only(x, 1);
    found(x, 1, 13, 0);
    found(x, 1, 14, 1, 1, 14);
    x.weight(2, 5);
    found(x, 1, 9, 0);
    found(x, 1, 10, 1);
    x.weight(3, 2);
    found(x, 1, 3, 0);
    found(x, 1, 4, 1);
  }

  private static void countsStartAnew() {
    NearFinder x = book("e", "aa", "bb");
    Given.ask(x, NearFinder.BAD, "ab");
    x.weight(4, 1000);
    // letters that the words before have not used up are not those of the next word
    found(x, 3, 4, 0);
    found(x, 3, 5, 2);
    Given.ask(x, NearFinder.BAD, "", "", "aaaaaaaaab");
    found(x, 3, 39, 0);
    found(x, 3, 40, 1);
    found(x, 3, 45, 2);
    found(x, 3, 50, 3);
  }

  private static void only(NearFinder x, int entry) {
    for (int other = 0; other < x.count(0); other++) {
      x.drop(other, other != entry);
    }
  }

  private static void boundsByTheLeastWay() {
    NearFinder x = new NearFinder();
    Given.entry(x, 1, "ab", "cde");
    Given.ask(x, NearFinder.BAD, "edc", "ba");
    // by counts both pairs are turned for nothing but kind 5
    found(x, 1, 19, 0);
    found(x, 1, 20, 1);
    Given.ask(x, NearFinder.BAD, "ba");
    found(x, 1, 59, 0);
    found(x, 1, 60, 1);
    Given.ask(x, NearFinder.BAD, "ba", "edc", "i");
    found(x, 1, 59, 0);
    found(x, 1, 60, 1);
    x.weight(4, 3);
    Given.ask(x, NearFinder.BAD, "iiii", "oooo");
    found(x, 1, 11, 0);
    found(x, 1, 12, 1, 0, 12);
  }

  private static void boundsByTheLastOne() {
    NearFinder x = book("abe", "abc", "abcd", "abc", "cba");
    Given.ask(x, NearFinder.BAD, "abc");
    // 0 is worked out and goes, 2 is too far by counts; like least sums are worked out
    found(x, 1, 1000, 4, 1, 0);
    found(x, 2, 1000, 4 + 1, 1, 0, 3, 0);
    scanned(x, 1, 1000, 5, 1, 0);
    x.learned(3, 5);
    found(x, 1, 1000, 4, 3, 0);
    x.drop(1, true);
    // 2 has a least sum of 5 and a sum of 10 when the last one's is 15
    found(x, 1, 1000, 4, 3, 0);
    x.drop(3, true);
    found(x, 1, 1000, 3, 2, 10);
    x.weight(0, 4);
    x.weight(4, 1);
    // two missing words are 2 in all: least sums of 5 and 4 make room for it
    found(x, 3, 1000, 3, 0, 2, 2, 2, 4, 2);
  }

  private static void fortyEntries() {
    NearFinder x = new NearFinder();
    for (int i = 0; i < 40; i++) {
      Given.entry(x, i, Given.letters('a', 1 + (39 - i) / 4));
      x.learned(i, i % 4 * 100);
    }
    Given.ask(x, NearFinder.BAD, "a");
    DUE.is("all forty", x.find(40, 90), 40);
    DUE.is("all were worked out", x.worked(), 40);
    for (int i = 0; i < 40; i++) {
      DUE.is("entry " + i + " of forty", x.found(i), 39 - i);
      DUE.is("sum " + i + " of forty", x.sum(i), i / 4 * 10);
    }
    DUE.is("of like ones the last day told", x.scan(40, 9), 4);
    DUE.is("first", x.found(0), 39);
    DUE.is("find(3, 90)", x.find(3, 90), 3);
    DUE.is("third", x.found(2), 37);
  }
}
