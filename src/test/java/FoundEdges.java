import java.util.Arrays;

/** What 'Terms' says of found ones, counts and least sums, sentence by sentence; TermsEdgesTest runs it. */
final class FoundEdges {
  private static final int BAD = NearFinder.BAD;
  private static final int ANY_BOUND = Integer.MAX_VALUE;

  private final Due due;

  private FoundEdges(Due due) {
    this.due = due;
  }

  static void all(Sentences document, Due due) {
    FoundEdges edges = new FoundEdges(due);
    edges.found(document);
    edges.counts(document);
    edges.finding(document);
  }

  private void found(Sentences document) {
    document.holds("FOUND are, of the entries that are not dropped,", this::notDropped);
    document.holds("and of the place that is asked for, if one is,", this::ofThePlace);
    document.holds("those with a sum of at most a BOUND,", this::atMostTheBound);
    document.holds("at most k of them:", this::atMostK);
    document.holds("the least sums first;", this::leastSumsFirst);
    document.holds("of like ones those LEARNED on a later day", this::laterDaysFirst);
    document.holds("(never: before all days),", this::neverIsBeforeAllDays);
    document.holds("then the lesser entries.", this::lesserEntriesFirst);
  }

  private void counts(Sentences document) {
    document.holds(
        "COUNTS: A are the letters of an asked word beyond those of an entry's "
            + "(each letter as often as it stands more often),",
        this::lettersOfTheAsked);
    document.holds("B those of the entry's beyond the asked one's.", this::lettersOfTheEntry);
    document.holds("The LEAST SUM of an entry is as its sum,", this::leastSumAsTheSum);
    document.holds("but with the greater of", this::greaterOfBoth);
    document.holds("A times the least weight of kinds 1, 2, 3,", this::leastWeightForA);
    document.holds("and B times the least of kinds 0, 2, 3, in place of changes:", this::leastWeightForB);
    document.holds("it is never above the sum.", this::neverAboveTheSum);
  }

  private void finding(Sentences document) {
    document.holds("find() takes entries in order", this::inOrder);
    document.holds("and does not work out the sum of one whose least sum is above the bound,", this::aboveTheBound);
    document.holds("or, when k are found by then, above the last one's.", this::aboveTheLastOnes);
  }

  private static NearFinder book(String... firstWords) {
    NearFinder x = new NearFinder();
    for (String word : firstWords) {
      Given.entry(x, 1, word);
    }
    return x;
  }

  private static NearFinder asked(NearFinder x, String... words) {
    Given.ask(x, BAD, words);
    return x;
  }

  /** The same by both ways of looking. */
  private void finds(String what, NearFinder x, int k, int bound, int... entries) {
    due.is(what + ": find", x.find(k, bound), entries.length);
    order(what + ", by find", x, entries);
    due.is(what + ": scan", x.scan(k, bound), entries.length);
    order(what + ", by scan", x, entries);
  }

  private void order(String what, NearFinder x, int... entries) {
    due.is(what + ": found ones", x.count(3), entries.length);
    for (int i = 0; i < entries.length; i++) {
      due.is(what + ": found(" + i + ")", x.found(i), entries[i]);
    }
    due.is(what + ": found(" + entries.length + ")", x.found(entries.length), BAD);
  }

  private void notDropped() {
    NearFinder x = asked(book("ab", "ab", "ab"), "ab");
    x.drop(0, true);
    finds("the first is dropped", x, 40, ANY_BOUND, 1, 2);
    finds("k counts without it", x, 1, ANY_BOUND, 1);
    x.drop(2, true);
    x.drop(0, false);
    finds("the last is dropped", x, 40, ANY_BOUND, 0, 1);
    x.drop(0, true);
    x.drop(1, true);
    finds("all are dropped", x, 40, ANY_BOUND);
  }

  private void ofThePlace() {
    NearFinder x = new NearFinder();
    for (int place : new int[] {0, 999, 5, 0, 999}) {
      Given.entry(x, place, "ab");
    }
    int[][] due = {{0, 0, 3}, {999, 1, 4}, {5, 2}, {4}, {6}, {998}, {1}, {BAD, 0, 1, 2, 3, 4}};
    for (int[] placeAndEntries : due) {
      Given.ask(x, placeAndEntries[0], "ab");
      int[] entries = Arrays.copyOfRange(placeAndEntries, 1, placeAndEntries.length);
      finds("place " + placeAndEntries[0], x, 40, ANY_BOUND, entries);
    }
    Given.ask(x, 999, "ab");
    finds("k counts of the place alone", x, 1, ANY_BOUND, 1);
    x.drop(1, true);
    finds("of the place, not dropped", x, 40, ANY_BOUND, 4);
  }

  private void atMostTheBound() {
    NearFinder x = asked(book("abc", "ab", "abcd", ""), "ab");
    finds("bound 0", x, 40, 0, 1);
    finds("bound 9", x, 40, 9, 1);
    finds("bound 10", x, 40, 10, 1, 0);
    finds("bound 19", x, 40, 19, 1, 0);
    finds("bound 20", x, 40, 20, 1, 0, 2);
    finds("bound 59", x, 40, 59, 1, 0, 2);
    finds("bound 60", x, 40, 60, 1, 0, 2, 3);
    finds("the greatest bound", x, 40, Integer.MAX_VALUE, 1, 0, 2, 3);
  }

  private void atMostK() {
    NearFinder x = asked(book("abc", "ab", "abcd", ""), "ab");
    finds("1", x, 1, ANY_BOUND, 1);
    finds("2", x, 2, ANY_BOUND, 1, 0);
    finds("3", x, 3, ANY_BOUND, 1, 0, 2);
    finds("4", x, 4, ANY_BOUND, 1, 0, 2, 3);
    finds("5", x, 5, ANY_BOUND, 1, 0, 2, 3);
    finds("40", x, 40, ANY_BOUND, 1, 0, 2, 3);
    finds("fewer are within the bound", x, 3, 10, 1, 0);

    NearFinder full = new NearFinder();
    Given.full(full);
    due.is("1 of forty", full.find(1, 0), 1);
    due.is("39 of forty", full.find(39, 0), 39);
    due.is("40 of forty", full.find(40, 0), 40);
    due.is("39 of forty by scan", full.scan(39, 0), 39);
    due.is("40 of forty by scan", full.scan(40, 0), 40);
  }

  private void leastSumsFirst() {
    String[] words = {"abcde", "abcd", "abc", "ab", "a"};
    finds("greatest first in the book", asked(book(words), "a"), 40, ANY_BOUND, 4, 3, 2, 1, 0);
    finds("least first in the book", asked(book(words), "abcde"), 40, ANY_BOUND, 0, 1, 2, 3, 4);
    finds("from the middle", asked(book(words), "abc"), 3, ANY_BOUND, 2, 1, 3);
    NearFinder x = asked(book(words), "abcde");
    x.learned(4, 100000);
    finds("a later day does not go before a lesser sum", x, 40, ANY_BOUND, 0, 1, 2, 3, 4);
  }

  private void laterDaysFirst() {
    NearFinder x = asked(book("ab", "ab", "ab", "ab"), "ab");
    x.learned(0, 99999);
    x.learned(1, 0);
    x.learned(2, 100000);
    x.learned(3, 1);
    finds("by their days", x, 40, 0, 2, 0, 3, 1);
    finds("k of them", x, 2, 0, 2, 0);
    finds("one of them", x, 1, 0, 2);
    x.learned(1, 100000);
    finds("one is told anew", x, 1, 0, 1);
  }

  private void neverIsBeforeAllDays() {
    NearFinder x = asked(book("ab", "ab", "ab"), "ab");
    finds("never learned", x, 40, 0, 0, 1, 2);
    x.learned(2, 0);
    finds("day 0 is later than never", x, 40, 0, 2, 0, 1);
    finds("and takes the only place", x, 1, 0, 2);
    x.learned(1, 0);
    finds("never is the last", x, 40, 0, 1, 2, 0);
  }

  private void lesserEntriesFirst() {
    NearFinder x = asked(book("ab", "ab", "ab"), "ab");
    finds("never learned", x, 40, 0, 0, 1, 2);
    finds("the only place", x, 1, 0, 0);
    for (int entry = 2; entry >= 0; entry--) {
      x.learned(entry, 7);
    }
    finds("learned on one day", x, 40, 0, 0, 1, 2);
    finds("two places", x, 2, 0, 0, 1);
    x = asked(book("abc", "aeb", "ab", "bab"), "ab");
    finds("of like sums behind a lesser one", x, 3, ANY_BOUND, 2, 0, 1);
  }

  /** The least bound by which the one entry of a book is worked out. */
  private static int leastSum(NearFinder x) {
    int least = 0;
    int greatest = 100000;
    while (least < greatest) {
      int middle = (least + greatest) / 2;
      x.find(1, middle);
      if (x.worked() == 1) {
        greatest = middle;
      } else {
        least = middle + 1;
      }
    }
    return least;
  }

  private void leastSumIs(String asked, String inBook, int want, int... weights) {
    NearFinder x = asked(book(inBook), asked);
    Given.weights(x, weights);
    due.is("the least sum of " + inBook + " when " + asked + " is asked", leastSum(x), want);
  }

  /** Letters that are put in weigh nothing, so that B times the least weight is 0. */
  private void countA(String asked, String inBook, int letters) {
    leastSumIs(asked, inBook, 3 * letters, 0, 3, 4, 4, 1000);
  }

  private void lettersOfTheAsked() {
    countA("ab", "ab", 0);
    countA("ab", "ba", 0);
    countA("ab", "a", 1);
    countA("ab", "abc", 0);
    countA("aab", "ab", 1);
    countA("aaab", "ab", 2);
    countA("ab", "aabb", 0);
    countA("aabb", "abab", 0);
    countA("aaab", "aac", 2);
    countA("ac", "aa", 1);
    countA("aabb", "abc", 2);
    countA("abc", "def", 3);
    countA("az", "za", 0);
    countA("zzz", "z", 2);
    countA("aaaaaaaaaa", "e", 10);
    countA("aaaaaaaaaa", "eeeeeeeeea", 9);
    countA("abcdefghij", "jihgfedcba", 0);
    // a letter that sounds alike is another one
    countA("b", "p", 1);
  }

  /** Letters that are left out weigh nothing, so that A times the least weight is 0. */
  private void countB(String asked, String inBook, int letters) {
    leastSumIs(asked, inBook, 3 * letters, 3, 0, 4, 4, 1000);
  }

  private void lettersOfTheEntry() {
    countB("ab", "ab", 0);
    countB("ab", "ba", 0);
    countB("a", "ab", 1);
    countB("abc", "ab", 0);
    countB("ab", "aab", 1);
    countB("ab", "aaab", 2);
    countB("aabb", "ab", 0);
    countB("aabb", "abab", 0);
    countB("aac", "aaab", 2);
    countB("aa", "ac", 1);
    countB("abc", "aabb", 2);
    countB("abc", "def", 3);
    countB("z", "zzz", 2);
    countB("e", "aaaaaaaaaa", 10);
    countB("eeeeeeeeea", "aaaaaaaaaa", 9);
    countB("b", "p", 1);
  }

  private void leastSumAsTheSum() {
    NearFinder x = new NearFinder();
    Given.entry(x, 0, "abc", "efg");
    asked(x, "cab", "gef");
    due.is("the same letters in both", leastSum(x), 0);
    asked(x, "gef", "cab");
    due.is("turned, kind 5", leastSum(x), 20);
    asked(x, "cab");
    due.is("missing among the asked, kind 4", leastSum(x), 60);
    asked(x, "cab", "gef", "i");
    due.is("missing in the entry, kind 4", leastSum(x), 60);
    asked(x, "", "gef", "cab");
    x.weight(5, 1000);
    // the pairs in order share no letter: b and f sound alike, but are not the same
    due.is("rather pairs in order than turned", leastSum(x), 3 * 5 + 3 * 5);
    x.weight(4, 7);
    due.is("rather missing than turned", leastSum(x), 14);
    x.weight(4, 0);
    due.is("all missing", leastSum(x), 0);
    x = new NearFinder();
    Given.entry(x, 0);
    due.is("an entry without words", leastSum(asked(x, "abc")), 60);
  }

  private void greaterOfBoth() {
    // A and B are 2 each
    leastSumIs("aab", "acd", 2 * 11, 11, 7, 1000, 1000, 1000);
    leastSumIs("aab", "acd", 2 * 11, 7, 11, 1000, 1000, 1000);
    leastSumIs("aab", "acd", 2 * 11, 11, 11, 1000, 1000, 1000);
    // A is 3, B is 1
    leastSumIs("abcd", "ae", 3 * 7, 20, 7, 1000, 1000, 1000);
    leastSumIs("abcd", "ae", 22, 22, 7, 1000, 1000, 1000);
    leastSumIs("abcd", "ae", 21, 21, 7, 1000, 1000, 1000);
    // A is 1, B is 3
    leastSumIs("ae", "abcd", 3 * 7, 7, 20, 1000, 1000, 1000);
    leastSumIs("ae", "abcd", 22, 7, 22, 1000, 1000, 1000);
  }

  private void leastWeightForA() {
    leastSumIs("aaa", "a", 2 * 30, 1000, 30, 40, 50, 1000);
    leastSumIs("aaa", "a", 2 * 30, 1000, 40, 30, 50, 1000);
    leastSumIs("aaa", "a", 2 * 30, 1000, 40, 50, 30, 1000);
    leastSumIs("aaa", "a", 2 * 30, 0, 40, 50, 30, 1000);
    leastSumIs("aaa", "a", 2 * 30, 30, 30, 30, 30, 1000);
    leastSumIs("aaa", "a", 0, 1000, 0, 50, 30, 1000);
    leastSumIs("aaa", "a", 2 * 1000, 1000, 1000, 1000, 1000, 1000);
  }

  private void leastWeightForB() {
    leastSumIs("a", "aaa", 2 * 30, 30, 1000, 40, 50, 1000);
    leastSumIs("a", "aaa", 2 * 30, 40, 1000, 30, 50, 1000);
    leastSumIs("a", "aaa", 2 * 30, 40, 1000, 50, 30, 1000);
    leastSumIs("a", "aaa", 2 * 30, 40, 0, 50, 30, 1000);
    leastSumIs("a", "aaa", 2 * 30, 30, 30, 30, 30, 1000);
    leastSumIs("a", "aaa", 0, 0, 1000, 50, 30, 1000);
    leastSumIs("a", "aaa", 2 * 1000, 1000, 1000, 1000, 1000, 1000);
  }

  private void neverAboveTheSum() {
    String[] words = {"a", "b", "p", "ab", "ba", "pb", "aab", "bpf", "abcabc", "kgsz", "mnnm", "aaaaaaaaaa"};
    int[][] weights = {
      {10, 10, 15, 5, 60, 20}, {1, 1, 1000, 1000, 1000, 1000}, {1000, 1000, 1, 1000, 1000, 1000},
      {1000, 1000, 1000, 1, 1000, 1000}, {7, 3, 5, 2, 9, 1}, {3, 7, 2, 5, 1, 9}, {0, 9, 4, 8, 30, 2},
    };
    for (int[] some : weights) {
      for (String one : words) {
        for (String other : words) {
          NearFinder x = new NearFinder();
          Given.entry(x, 0, one, other);
          Given.weights(x, some);
          asked(x, other, "", "ab");
          due.isTrue(one + " " + other, leastSum(x) <= x.sumOf(0));
        }
      }
    }
  }

  private void works(String what, NearFinder x, int k, int bound, int worked, int... entries) {
    due.is(what + ": find", x.find(k, bound), entries.length);
    due.is(what + ": worked", x.worked(), worked);
    order(what, x, entries);
  }

  private void inOrder() {
    works("the nearest first", asked(book("ab", "abc", "abcd"), "ab"), 1, ANY_BOUND, 1, 0);
    works("the nearest second", asked(book("abc", "ab", "abcd"), "ab"), 1, ANY_BOUND, 2, 1);
    works("the nearest last", asked(book("abcd", "abc", "ab"), "ab"), 1, ANY_BOUND, 3, 2);
    NearFinder x = asked(book("abcd", "ab", "abc"), "ab");
    x.learned(2, 100);
    works("not in the order of days", x, 1, ANY_BOUND, 2, 1);
    x.drop(0, true);
    works("a dropped one is none of them", x, 1, ANY_BOUND, 1, 1);
  }

  private void aboveTheBound() {
    // a letter put in: a least sum of 5, a sum of 10
    NearFinder x = asked(book("abc"), "ab");
    works("one below the least sum", x, 1, 4, 0);
    works("the least sum", x, 1, 5, 1);
    works("one below the sum", x, 1, 9, 1);
    works("the sum", x, 1, 10, 1, 0);
    works("the least bound", x, 1, 0, 0);
    works("the greatest bound", x, 1, Integer.MAX_VALUE, 1, 0);
    x = asked(book("abc", "abcd", "ab", "abcde"), "ab");
    works("each by its own least sum", x, 40, 10, 3, 2, 0);
    // those above the bound are not found, and so do not make up k
    works("k of 1", x, 1, 9, 2, 2);
  }

  private void aboveTheLastOnes() {
    // the last one has a least sum of 10 and a sum of 20
    String[] words = {"ab", "abc", "abcd"};
    works("1 is found, its sum is 0", asked(book(words), "ab"), 1, ANY_BOUND, 1, 0);
    works("2 are found, the last sum is 10", asked(book(words), "ab"), 2, ANY_BOUND, 3, 0, 1);
    works("3 are not found by then", asked(book(words), "ab"), 3, ANY_BOUND, 3, 0, 1, 2);
    NearFinder x = asked(book(words), "ab");
    x.weight(3, 6);
    works("2 are found, the least sum is 12", x, 2, ANY_BOUND, 2, 0, 1);
    works("only 2 of 3 are found, the least sum is 12", x, 3, ANY_BOUND, 3, 0, 1, 2);
    works("the bound still holds", x, 3, 11, 2, 0, 1);
    // c put in weighs 10; b left out weighs 10, and then 11, also as a least sum
    x = asked(book("abc", "a"), "ab");
    Given.weights(x, 10, 10, 15, 11);
    works("the last one's sum itself", x, 1, ANY_BOUND, 2, 0);
    x.weight(1, 11);
    works("one above the last one's sum", x, 1, ANY_BOUND, 1, 0);
    // a sum of 0 is like the last one's, and its day is later
    x = asked(book("ab", "ab", "ba", "abc"), "ab");
    x.learned(1, 3);
    works("like ones are worked out", x, 1, ANY_BOUND, 3, 1);
    // the last one's sum falls from 20 to 10 and to 0
    works("the last one changes", asked(book("abcd", "abc", "abcde", "ab", "abc"), "ab"), 1, ANY_BOUND, 3, 3);
    // one found by then is above the bound, and so is not found
    works("the first is too far", asked(book("abc", "ab", "abe"), "ab"), 1, 9, 2, 1);
  }
}
