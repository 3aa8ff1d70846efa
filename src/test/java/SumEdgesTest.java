/** Promises 12, 13 and 14, sentence by sentence: sumOf, pair and changes. */
final class SumEdgesTest {
  private static final int BAD = NearFinder.BAD;
  private static final Due DUE = new Due();

  public static void main(String[] args) {
    Sentences document = new Sentences(DUE);
    document.under("Promise 12: sumOf");
    document.holds("The sum of an entry now", SumEdgesTest::sumNow);
    document.holds("(dropped or not,", SumEdgesTest::sumOfDropped);
    document.holds("of any place).", SumEdgesTest::sumOfAnyPlace);
    document.holds("BAD: none such.", SumEdgesTest::noSuchSum);

    document.under("Promise 13: pair");
    document.holds(
        "With which word of an entry a word that is asked is paired by the way that gives the sum",
        SumEdgesTest::pairOfTheSum);
    document.holds(
        "(of several ways the first, words asked in order paired with none, 0, 1, 2 in this order).",
        SumEdgesTest::firstWay);
    document.holds("BAD: with none;", SumEdgesTest::pairedWithNone);
    document.holds("none such.", SumEdgesTest::noSuchPair);

    document.under("Promise 14: changes");
    document.holds("The changes from a word that is asked to a word of an entry.", SumEdgesTest::changesFromTo);
    document.holds("BAD: none such entry or words", SumEdgesTest::noSuchEntryOrWords);
    document.holds("(also without letters).", SumEdgesTest::wordsWithoutLetters);
    document.end();
  }

  private static NearFinder given(String... words) {
    NearFinder x = new NearFinder();
    Given.entry(x, 4, words);
    return x;
  }

  private static void sumNow() {
    NearFinder x = new NearFinder();
    x.entry(4);
    DUE.is("nothing on either side", x.sumOf(0), 0);
    x.letter(0, 0, 0);
    DUE.is("a word of the entry", x.sumOf(0), 60);
    x.ask(2, 0);
    DUE.is("the same word asked", x.sumOf(0), 0);
    x.ask(2, 4);
    DUE.is("a letter more asked", x.sumOf(0), 10);
    x.weight(1, 11);
    DUE.is("another weight", x.sumOf(0), 11);
    x.letter(0, 0, 4);
    DUE.is("a letter more of the entry", x.sumOf(0), 0);
    x.letter(0, 1, 4);
    DUE.is("a word more of the entry", x.sumOf(0), 60);
    x.asked(BAD);
    DUE.is("nothing asked any more", x.sumOf(0), 120);

    x = given("aaaaaaaaaa", "aaaaaaaaaa", "aaaaaaaaaa");
    Given.weights(x, 1000, 1000, 1000, 1000, 1000, 1000);
    Given.ask(x, BAD, "eeeeeeeeee", "eeeeeeeeee", "eeeeeeeeee");
    DUE.is("the greatest of all", x.sumOf(0), 6000);
    Given.weights(x, 0, 0, 0, 0, 0, 0);
    DUE.is("when all weigh nothing", x.sumOf(0), 0);
  }

  private static void sumOfDropped() {
    NearFinder x = given("ab");
    Given.ask(x, BAD, "abc");
    DUE.is("not dropped", x.sumOf(0), 10);
    x.drop(0, true);
    DUE.is("dropped", x.sumOf(0), 10);
    x.letter(0, 0, 2);
    DUE.is("dropped, with a letter more", x.sumOf(0), 0);
    x.drop(0, false);
    DUE.is("not dropped any more", x.sumOf(0), 0);
  }

  private static void sumOfAnyPlace() {
    NearFinder x = given("ab");
    for (int place : new int[] {4, 0, 999, BAD}) {
      Given.ask(x, place, "abc");
      DUE.is("of place 4 when " + place + " is asked", x.sumOf(0), 10);
    }
  }

  private static void noSuchSum() {
    for (int entry : Numbers.outside(0, 4)) {
      NearFinder given = new NearFinder();
      Given.much(given);
      DUE.is("sumOf(" + entry + ")", given.sumOf(entry), BAD);
      State.stays(DUE, "sumOf(" + entry + ")", Given::much, x -> x.sumOf(entry));
    }
    DUE.is("in an empty book", new NearFinder().sumOf(0), BAD);
    NearFinder full = new NearFinder();
    Given.full(full);
    DUE.is("the last of forty", full.sumOf(39), 0);
    DUE.is("one behind the last of forty", full.sumOf(40), BAD);
  }

  private static void pairs(String what, NearFinder x, int pair0, int pair1, int pair2) {
    DUE.is(what + ": word 0", x.pair(0, 0), pair0);
    DUE.is(what + ": word 1", x.pair(0, 1), pair1);
    DUE.is(what + ": word 2", x.pair(0, 2), pair2);
  }

  private static void pairOfTheSum() {
    NearFinder x = given("main", "street", "north");
    Given.ask(x, 4, "main", "street", "north");
    pairs("as they stand", x, 0, 1, 2);
    Given.ask(x, 4, "north", "main", "street");
    pairs("turned", x, 2, 0, 1);
    Given.ask(x, 4, "north", "street", "main");
    pairs("all turned", x, 2, 1, 0);
    Given.ask(x, 5, "streat", "nort");
    pairs("with changes, of another place", x, 1, 2, BAD);
    x.drop(0, true);
    pairs("dropped", x, 1, 2, BAD);
    x.weight(4, 12);
    // two missing words weigh 24, and then 12: streat to street is 15, nort to north 10
    pairs("now, by another weight", x, 1, 2, BAD);
    x.weight(4, 6);
    pairs("now, by a lesser weight", x, BAD, 2, BAD);
  }

  private static void firstWay() {
    NearFinder x = given("ab", "ab", "ab");
    x.weight(5, 0);
    Given.ask(x, BAD, "ab");
    pairs("0 before 1 and 2", x, 0, BAD, BAD);
    Given.ask(x, BAD, "ab", "ab", "ab");
    pairs("the first word with 0, the second with 1", x, 0, 1, 2);
    x.weight(4, 0);
    pairs("with none before 0", x, BAD, BAD, BAD);

    x = given("", "ab", "ab");
    Given.ask(x, BAD, "", "", "ab");
    pairs("1 before 2", x, BAD, BAD, 1);
    Given.ask(x, BAD, "ab", "ab", "ab");
    pairs("the first word with none before the others", x, BAD, 1, 2);

    x = given("ab");
    x.weight(4, 10);
    Given.ask(x, BAD, "abcd");
    DUE.is("two letters left out weigh as much as two missing words", x.sumOf(0), 20);
    pairs("with none rather than 0", x, BAD, BAD, BAD);

    // 0 to 0 and 1 to 1 weigh 20 in all, as 0 to 1 and 1 to 0 do by being turned
    x = given("abc", "abcd");
    Given.ask(x, BAD, "abcd", "abc");
    DUE.is("both ways weigh 20", x.sumOf(0), 20);
    pairs("the first word with 0 rather than 1", x, 0, 1, BAD);
    x.weight(5, 19);
    pairs("unless the other way weighs less", x, 1, 0, BAD);
  }

  private static void pairedWithNone() {
    NearFinder x = given("", "main");
    pairs("nothing asked", x, BAD, BAD, BAD);
    Given.ask(x, BAD, "", "main");
    pairs("words without letters", x, BAD, 1, BAD);
    Given.ask(x, BAD, "street", "main", "north");
    pairs("words that are missing in the entry", x, BAD, 1, BAD);
    Given.ask(x, BAD, "xxxxxxxxxx");
    x.weight(4, 1);
    pairs("rather missing than changed", x, BAD, BAD, BAD);
    x = given();
    Given.ask(x, BAD, "a", "b", "c");
    pairs("an entry without words", x, BAD, BAD, BAD);
  }

  private static void noSuchPair() {
    for (int entry : Numbers.outside(0, 4)) {
      noPair(entry, 0);
    }
    for (int word : Numbers.outside(0, 2)) {
      noPair(0, word);
      noPair(4, word);
    }
    DUE.is("in an empty book", new NearFinder().pair(0, 0), BAD);
    NearFinder full = new NearFinder();
    Given.full(full);
    DUE.is("the last of forty", full.pair(39, 0), 0);
    DUE.is("one behind the last of forty", full.pair(40, 0), BAD);
  }

  private static void noPair(int entry, int word) {
    String call = "pair(" + entry + ", " + word + ")";
    NearFinder given = new NearFinder();
    Given.much(given);
    DUE.is(call, given.pair(entry, word), BAD);
    State.stays(DUE, call, Given::much, x -> x.pair(entry, word));
  }

  private static void changesFromTo() {
    NearFinder x = given("a", "abe", "ba");
    Given.weights(x, 1, 100, 1000, 1000);
    Given.ask(x, 999, "abe", "e", "ab");
    x.drop(0, true);
    int[][] due = {
      {200, 0, 201},
      {101, 2, 102},
      {100, 1, 101},
    };
    for (int word = 0; word < 3; word++) {
      for (int other = 0; other < 3; other++) {
        DUE.is("changes(" + word + ", 0, " + other + ")", x.changes(word, 0, other), due[word][other]);
      }
    }
    x = given("aaaaaaaaaa", "e");
    Given.weights(x, 1000, 1000, 1000, 1000);
    Given.ask(x, BAD, "eeeeeeeeee", "o");
    DUE.is("the greatest", x.changes(0, 0, 0), 10000);
    DUE.is("a word of one letter from ten", x.changes(0, 0, 1), 9000);
    DUE.is("a word of ten letters from one", x.changes(1, 0, 0), 10000);
    DUE.is("one letter from one", x.changes(1, 0, 1), 1000);
  }

  private static void noSuchEntryOrWords() {
    for (int entry : Numbers.outside(0, 4)) {
      noChanges(0, entry, 0);
    }
    for (int word : Numbers.outside(0, 2)) {
      noChanges(word, 0, 0);
      noChanges(word, 4, 2);
      noChanges(0, 0, word);
      noChanges(1, 4, word);
    }
    DUE.is("in an empty book", new NearFinder().changes(0, 0, 0), BAD);
    NearFinder full = new NearFinder();
    Given.full(full);
    DUE.is("the last of forty", full.changes(0, 39, 0), 0);
    DUE.is("one behind the last of forty", full.changes(0, 40, 0), BAD);
  }

  private static void noChanges(int word, int entry, int other) {
    String call = "changes(" + word + ", " + entry + ", " + other + ")";
    NearFinder given = new NearFinder();
    Given.much(given);
    DUE.is(call, given.changes(word, entry, other), BAD);
    State.stays(DUE, call, Given::much, x -> x.changes(word, entry, other));
  }

  private static void wordsWithoutLetters() {
    NearFinder x = given("", "a");
    Given.ask(x, BAD, "a");
    DUE.is("to a word without letters", x.changes(0, 0, 0), BAD);
    DUE.is("to another one", x.changes(0, 0, 2), BAD);
    DUE.is("from a word without letters", x.changes(1, 0, 1), BAD);
    DUE.is("from another one", x.changes(2, 0, 1), BAD);
    DUE.is("neither has letters", x.changes(1, 0, 0), BAD);
    DUE.is("both have letters", x.changes(0, 0, 1), 0);
    x.asked(BAD);
    DUE.is("letters that were asked before", x.changes(0, 0, 1), BAD);
    x.ask(1, 0);
    DUE.is("one letter is enough", x.changes(1, 0, 1), 0);
  }
}
