/** Promises 12 and 13: sumOf and pair. */
final class SumTest {
  private static final Due DUE = new Due();
  private static final String A = "aaaaaaaaaa";
  private static final String E = "eeeeeeeeee";
  private static final String I = "iiiiiiiiii";

  public static void main(String[] args) {
    wrongOnes();
    missingWords();
    wordsTheOtherWayRound();
    firstOfSeveralWays();
    nowAndForEveryEntry();
    DUE.end();
  }

  private static NearFinder given(String... words) {
    NearFinder x = new NearFinder();
    Given.entry(x, 4, words);
    return x;
  }

  private static void way(String what, NearFinder x, int sum, int pair0, int pair1, int pair2) {
    DUE.is(what + ": sum", x.sumOf(0), sum);
    DUE.is(what + ": pair of word 0", x.pair(0, 0), pair0);
    DUE.is(what + ": pair of word 1", x.pair(0, 1), pair1);
    DUE.is(what + ": pair of word 2", x.pair(0, 2), pair2);
  }

  private static void wrongOnes() {
    NearFinder x = given("ab");
    Given.ask(x, NearFinder.BAD, "ab");
    for (int bad : new int[] {-1, 1, Integer.MIN_VALUE, Integer.MAX_VALUE}) {
      DUE.is("sumOf(" + bad + ")", x.sumOf(bad), -1);
      DUE.is("pair(" + bad + ", 0)", x.pair(bad, 0), -1);
    }
    for (int bad : new int[] {-1, 3, Integer.MIN_VALUE, Integer.MAX_VALUE}) {
      DUE.is("pair(0, " + bad + ")", x.pair(0, bad), -1);
    }
    DUE.is("pair(0, 0)", x.pair(0, 0), 0);
  }

  private static void missingWords() {
    way("nothing on either side", given(), 0, -1, -1, -1);
    way("nothing asked", given("a", "", "b"), 120, -1, -1, -1);
    NearFinder x = given();
    Given.ask(x, NearFinder.BAD, "a", "b", "c");
    way("an entry without words", x, 180, -1, -1, -1);

    x = given("main", "street", "north");
    Given.ask(x, NearFinder.BAD, "main", "street");
    way("a word missing among the asked", x, 60, 0, 1, -1);
    Given.ask(x, NearFinder.BAD, "street", "", "north");
    way("words that stand elsewhere, in the same order", x, 60, 1, -1, 2);

    x = given("", "", "main");
    Given.ask(x, NearFinder.BAD, "main");
    way("the place of a word alone weighs nothing", x, 0, 2, -1, -1);
    Given.ask(x, NearFinder.BAD, "", "mein", "xyz");
    way("a word missing in the entry", x, 75, -1, 2, -1);

    x = given(A);
    Given.ask(x, NearFinder.BAD, E);
    way("two missing words rather than ten exchanges", x, 120, -1, -1, -1);
    x.weight(4, 76);
    way("ten exchanges rather than two missing words", x, 150, 0, -1, -1);
  }

  private static void wordsTheOtherWayRound() {
    NearFinder x = given(I, E, A);
    Given.ask(x, NearFinder.BAD, A, E, I);
    way("three pairs turned", x, 60, 2, 1, 0);
    Given.ask(x, NearFinder.BAD, E, A, I);
    way("two pairs turned", x, 40, 1, 2, 0);
    Given.ask(x, NearFinder.BAD, E, I, A);
    way("one pair turned", x, 20, 1, 0, 2);
    Given.ask(x, NearFinder.BAD, A, "", I);
    way("turned over a word that is missing", x, 80, 2, -1, 0);
    x.weight(5, 1000);
    way("rather four missing ones than turned", x, 180, -1, -1, 0);

    x = given("ab", "ef");
    Given.ask(x, NearFinder.BAD, "ef", "ab");
    way("turned rather than exchanged", x, 20, 1, 0, -1);
    x.weight(5, 61);
    // e to a 15, f to b 5, and back
    way("exchanged rather than turned", x, 40, 0, 1, -1);
  }

  private static void firstOfSeveralWays() {
    NearFinder x = given("ab", "ab", "ab");
    Given.ask(x, NearFinder.BAD, "", "ab");
    way("0 before 1 and 2", x, 120, -1, 0, -1);
    Given.ask(x, NearFinder.BAD, "ab", "ab");
    way("0 and 1", x, 60, 0, 1, -1);
    x.weight(5, 0);
    Given.ask(x, NearFinder.BAD, "ab", "ab", "ab");
    way("in order, also when turning weighs nothing", x, 0, 0, 1, 2);
    x.weight(4, 0);
    way("none before all, when missing weighs nothing", x, 0, -1, -1, -1);

    x = given("ab");
    Given.ask(x, NearFinder.BAD, "ab", "ab", "ab");
    way("the first words with none", x, 120, -1, -1, 0);
    x = given("ab", "", "ab");
    Given.ask(x, NearFinder.BAD, "ab", "ab", "ab");
    way("the first word with none", x, 60, -1, 0, 2);

    x = given("aaaaaaaa");
    Given.ask(x, NearFinder.BAD, "eeeeeeee");
    way("eight exchanges weigh as much as two missing words", x, 120, -1, -1, -1);
  }

  private static void nowAndForEveryEntry() {
    NearFinder x = given("ab");
    Given.entry(x, 5, "abc");
    x.drop(1, true);
    Given.ask(x, 6, "abc");
    DUE.is("of any place", x.sumOf(0), 10);
    DUE.is("dropped or not", x.sumOf(1), 0);
    DUE.is("pair of any place", x.pair(0, 0), 0);
    x.letter(1, 1, 0);
    DUE.is("now: a word more", x.sumOf(1), 60);
    x.weight(4, 7);
    DUE.is("now: another weight", x.sumOf(1), 7);
    Given.ask(x, 6, "abcd");
    DUE.is("now: a letter more", x.sumOf(1), 17);
    DUE.is("nothing was looked for", x.worked(), 0);

    NearFinder greatest = given(A, A, A);
    Given.weights(greatest, 1000, 1000, 1000, 1000, 1000, 1000);
    Given.ask(greatest, NearFinder.BAD, E, E, E);
    DUE.is("the greatest sum", greatest.sumOf(0), 6000);
  }
}
