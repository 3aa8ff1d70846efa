/** 'What it is' and what 'Terms' says of the book, what is asked, weights, changes and sums, sentence by sentence. */
final class TermsEdgesTest {
  private static final int BAD = NearFinder.BAD;
  private static final int ANY_BOUND = Integer.MAX_VALUE;
  private static final String A = "aaaaaaaaaa";
  private static final String E = "eeeeeeeeee";
  private static final String I = "iiiiiiiiii";
  private static final Due DUE = new Due();

  public static void main(String[] args) {
    Sentences document = new Sentences(DUE);
    document.under("What it is");
    document.holds(
        "Nearest addresses: of all in a book those whose words are the least changes away from what is asked, "
            + "by weights for letters that are put in, left out, exchanged, or sound alike, "
            + "for words that are missing or stand the other way round; found by counting bounds, and by scanning.",
        TermsEdgesTest::nearestAddresses);
    document.holds(
        "An object is used for at most 512 calls after it has been made;", TermsEdgesTest::fiveHundredAndTwelveCalls);
    document.holds("what later calls answer is free.", TermsEdgesTest::laterCallsEnd);

    document.under("Terms");
    bookAndAsked(document);
    weights(document);
    changesAndSums(document);
    FoundEdges.all(document, DUE);
    document.end();
  }

  private static void bookAndAsked(Sentences document) {
    document.holds("LETTERS are 0 .. 25 (a .. z).", TermsEdgesTest::letters);
    document.holds("ENTRIES are numbered from 0, at most 40;", TermsEdgesTest::entries);
    document.holds("each has a PLACE 0 .. 999", TermsEdgesTest::places);
    document.holds("and WORDS 0, 1, 2 of at most 10 letters;", TermsEdgesTest::words);
    document.holds("a word without letters is none.", TermsEdgesTest::wordsThatAreNone);
    document.holds("ASKED are words 0, 1, 2 likewise,", TermsEdgesTest::wordsAsked);
    document.holds("and a place, or any (at first).", TermsEdgesTest::placeAsked);
  }

  private static void weights(Sentences document) {
    document.holds("WEIGHTS of KINDS, each 0 .. 1,000:", TermsEdgesTest::leastAndGreatestWeights);
    document.holds("0 a letter put in (10 at first),", TermsEdgesTest::putIn);
    document.holds("1 left out (10),", TermsEdgesTest::leftOut);
    document.holds("2 exchanged for another one (15),", TermsEdgesTest::exchanged);
    document.holds(
        "3 for one that SOUNDS alike (5): two of b f p v, of c g j k q s x z, of d t, of m n;",
        TermsEdgesTest::soundsAlike);
    document.holds("4 a word that is missing on either side (60);", TermsEdgesTest::missing);
    document.holds("5 two words the other way round (20).", TermsEdgesTest::turned);
  }

  private static void changesAndSums(Sentences document) {
    document.holds(
        "The CHANGES from one word to another one are the least sum of weights of letters put in, left out and "
            + "exchanged that make the one the other",
        TermsEdgesTest::leastChanges);
    document.holds(
        "(an exchange for one that sounds alike weighs the lesser of kinds 2 and 3).", TermsEdgesTest::lesserOfKinds);
    document.holds(
        "The SUM of an entry: words that are asked are PAIRED with words of the entry, each with one at most;",
        TermsEdgesTest::eachWithOneAtMost);
    document.holds("the sum of changes from the asked to the entry's of all pairs,", TermsEdgesTest::changesOfAllPairs);
    document.holds("of kind 4 for each word on either side that is not paired,", TermsEdgesTest::eachThatIsNotPaired);
    document.holds(
        "and of kind 5 for each two pairs whose words stand the other way round in the entry;",
        TermsEdgesTest::eachTwoPairs);
    document.holds("the least of all ways to pair.", TermsEdgesTest::leastOfAllWays);
  }

  private static NearFinder given(String... words) {
    NearFinder x = new NearFinder();
    Given.entry(x, 4, words);
    return x;
  }

  private static void nearestAddresses() {
    NearFinder x = new NearFinder();
    Given.entry(x, 0, "street", "main");
    Given.entry(x, 0, "main");
    Given.entry(x, 0, "main", "strreet");
    Given.entry(x, 0, "nain", "street");
    Given.entry(x, 0, "moin", "street");
    Given.entry(x, 0, "main", "stree");
    Given.entry(x, 0, "main", "street");
    Given.ask(x, BAD, "main", "street");
    int[] entriesAndSums = {6, 0, 3, 5, 2, 10, 5, 10, 4, 15, 0, 20, 1, 60};
    for (String way : new String[] {"find", "scan"}) {
      DUE.is(way, way.equals("find") ? x.find(40, 60) : x.scan(40, 60), 7);
      for (int i = 0; i < 7; i++) {
        DUE.is(way + ": found(" + i + ")", x.found(i), entriesAndSums[2 * i]);
        DUE.is(way + ": sum(" + i + ")", x.sum(i), entriesAndSums[2 * i + 1]);
      }
    }
  }

  private static void fiveHundredAndTwelveCalls() {
    NearFinder x = new NearFinder();
    x.entry(0);
    for (int call = 2; call <= 512; call++) {
      DUE.is("learned as call " + call, x.learned(0, call), call - 1);
    }

    // 40 entries, 420 letters of these and 30 asked are 490 calls; 22 looks are left
    x = new NearFinder();
    for (int entry = 0; entry < 40; entry++) {
      Given.entry(x, 0, entry < 14 ? new String[] {A, E, I} : new String[] {});
    }
    for (int word = 0; word < 3; word++) {
      for (int i = 0; i < 10; i++) {
        x.ask(word, new int[] {0, 4, 8}[word]);
      }
    }
    for (int call = 491; call <= 512; call++) {
      DUE.is("find as call " + call, x.find(40, 179), 14);
    }
  }

  private static void laterCallsEnd() {
    NearFinder x = new NearFinder();
    int[] numbers = Numbers.outside(0, 2);
    int calls = 0;
    for (int round = 0; round < 300; round++) {
      for (int n : numbers) {
        int m = round % 41;
        x.entry(m);
        x.letter(m, round % 3, round % 26);
        x.letter(n, m, n);
        x.ask(round % 3, m);
        x.find(m, Math.abs(round));
        x.scan(m, n);
        x.found(m);
        x.sum(n);
        x.sumOf(m);
        x.pair(m, round % 3);
        x.changes(round % 3, m, round % 2);
        x.learned(0, round);
        x.learned(m, round);
        x.drop(m, round % 2 == 0);
        x.share(n, 1 + m);
        x.count(m);
        x.weight(round % 6, n);
        calls += 17;
      }
      x.asked(round % 100 == 0 ? BAD : -2);
    }
    DUE.isTrue("calls that ended without an exception", calls > 512);
  }

  private static void letters() {
    for (int c = 0; c < 26; c++) {
      NearFinder x = new NearFinder();
      x.entry(0);
      DUE.isTrue("letter " + c, x.letter(0, 0, c));
      for (int d = 0; d < 26; d++) {
        x.asked(BAD);
        DUE.isTrue("asked letter " + d, x.ask(0, d));
        DUE.is("letters " + c + " and " + d + " are the same", x.changes(0, 0, 0) == 0 ? 1 : 0, c == d ? 1 : 0);
      }
      DUE.is("letters", x.count(1), 1);
    }
    for (int c : Numbers.outside(0, 25)) {
      NearFinder x = new NearFinder();
      x.entry(0);
      DUE.isFalse("letter " + c, x.letter(0, 0, c));
      DUE.isFalse("asked letter " + c, x.ask(0, c));
    }
  }

  private static void entries() {
    NearFinder x = new NearFinder();
    for (int i = 0; i < 40; i++) {
      DUE.is("there is no entry " + i + " yet", x.sumOf(i), BAD);
      DUE.is("entry " + i, x.entry(0), i);
      DUE.is("there is entry " + i, x.sumOf(i), 0);
    }
    DUE.is("one more", x.entry(0), BAD);
    DUE.is("there is no entry 40", x.sumOf(40), BAD);
    DUE.is("there is no entry -1", x.sumOf(-1), BAD);
  }

  private static void places() {
    int[] places = {0, 1, 39, 40, 255, 256, 998, 999};
    NearFinder x = new NearFinder();
    for (int place : places) {
      Given.entry(x, place, "a");
    }
    for (int i = 0; i < places.length; i++) {
      Given.ask(x, places[i], "a");
      DUE.is("entries of place " + places[i], x.find(40, ANY_BOUND), 1);
      DUE.is("the entry of place " + places[i], x.found(0), i);
    }
    for (int place : Numbers.outside(0, 999)) {
      DUE.is("entry of place " + place, x.entry(place), BAD);
    }
  }

  private static void words() {
    NearFinder x = new NearFinder();
    x.entry(0);
    for (int word = 0; word < 3; word++) {
      for (int i = 0; i < 10; i++) {
        DUE.isTrue("letter " + i + " of word " + word, x.letter(0, word, 4 * word));
      }
      DUE.isFalse("letter 10 of word " + word, x.letter(0, word, 4 * word));
    }
    for (int word : Numbers.outside(0, 2)) {
      DUE.isFalse("letter of word " + word, x.letter(0, word, 0));
    }
    Given.ask(x, BAD, A, E, I);
    DUE.is("all words are as told", x.sumOf(0), 0);
  }

  private static void wordsThatAreNone() {
    NearFinder x = given("", "", "");
    DUE.is("none on either side", x.sumOf(0), 0);
    Given.ask(x, BAD, "", "a");
    DUE.is("the others of the asked are none, all of the entry's are", x.sumOf(0), 60);
    x.letter(0, 2, 0);
    DUE.is("each side has one word", x.sumOf(0), 0);
    DUE.is("none is not paired", x.pair(0, 0), BAD);
    DUE.is("changes from none", x.changes(0, 0, 2), BAD);
    DUE.is("changes to none", x.changes(1, 0, 0), BAD);
    x.asked(BAD);
    DUE.is("the entry alone has one", x.sumOf(0), 60);
  }

  private static void wordsAsked() {
    NearFinder x = given(A, E, I);
    for (int word = 0; word < 3; word++) {
      for (int i = 0; i < 10; i++) {
        DUE.isTrue("letter " + i + " of word " + word, x.ask(word, 4 * word));
      }
      DUE.isFalse("letter 10 of word " + word, x.ask(word, 4 * word));
    }
    for (int word : Numbers.outside(0, 2)) {
      DUE.isFalse("letter of word " + word, x.ask(word, 0));
    }
    DUE.is("all words are as told", x.sumOf(0), 0);
  }

  private static void placeAsked() {
    NearFinder x = new NearFinder();
    Given.entry(x, 0, "a");
    Given.entry(x, 999, "a");
    x.ask(0, 0);
    DUE.is("any at first", x.find(40, 0), 2);
    Given.ask(x, 999, "a");
    DUE.is("a place", x.find(40, 0), 1);
    DUE.is("the one of the place", x.found(0), 1);
    Given.ask(x, 0, "a");
    DUE.is("the least place", x.find(40, 0), 1);
    DUE.is("the one of the least place", x.found(0), 0);
    Given.ask(x, BAD, "a");
    DUE.is("any again", x.find(40, 0), 2);
  }

  private static void leastAndGreatestWeights() {
    for (int w : new int[] {0, 1000}) {
      int[] all = {w, w, w, w, w, w};
      changesAre("e", "ae", w, all);
      changesAre("ae", "e", w, all);
      changesAre("o", "e", w, all);
      changesAre("b", "p", w, all);
      NearFinder x = given(A, E);
      Given.weights(x, all);
      sumIs(x, w, E, A);
      sumIs(x, w, A, E, I);
      for (int kind = 0; kind < 6; kind++) {
        DUE.is("weight " + w + " of kind " + kind, x.weight(kind, 1), w);
      }
    }
    for (int w : Numbers.outside(0, 1000)) {
      for (int kind = 0; kind < 6; kind++) {
        DUE.is("weight " + w + " of kind " + kind, new NearFinder().weight(kind, w), BAD);
      }
    }
    for (int kind : Numbers.outside(0, 5)) {
      DUE.is("weight of kind " + kind, new NearFinder().weight(kind, 1), BAD);
    }
  }

  /** By the weights at first, then with one of them changed. */
  private static void weighs(int kind, int atFirst, String asked, String inBook) {
    String what = asked + " to " + inBook;
    NearFinder x = given(inBook);
    Given.ask(x, BAD, asked);
    DUE.is(what, x.changes(0, 0, 0), atFirst);
    for (int other = 0; other < 6; other++) {
      if (other != kind) {
        x.weight(other, 1000);
      }
    }
    DUE.is(what + " when the other kinds weigh 1000", x.changes(0, 0, 0), atFirst);
    x.weight(kind, 3);
    DUE.is(what + " when kind " + kind + " weighs 3", x.changes(0, 0, 0), 3);
    x.weight(kind, 0);
    DUE.is(what + " when kind " + kind + " weighs 0", x.changes(0, 0, 0), 0);
  }

  private static void putIn() {
    weighs(0, 10, "a", "ae");
    weighs(0, 10, "a", "ea");
    weighs(0, 10, "aaaaaaaaa", A);
  }

  private static void leftOut() {
    weighs(1, 10, "ae", "a");
    weighs(1, 10, "ea", "a");
    weighs(1, 10, A, "aaaaaaaaa");
  }

  private static void exchanged() {
    weighs(2, 15, "a", "e");
    weighs(2, 15, "aaaaaaaaaz", "aaaaaaaaay");
    weighs(2, 15, "b", "c");
  }

  private static boolean soundAlike(char a, char b) {
    for (String group : new String[] {"bfpv", "cgjkqsxz", "dt", "mn"}) {
      if (group.indexOf(a) >= 0 && group.indexOf(b) >= 0) {
        return true;
      }
    }
    return false;
  }

  private static void soundsAlike() {
    for (char a = 'a'; a <= 'z'; a++) {
      for (char b = 'a'; b <= 'z'; b++) {
        NearFinder x = given(String.valueOf(b));
        Given.ask(x, BAD, String.valueOf(a));
        DUE.is(a + " to " + b, x.changes(0, 0, 0), a == b ? 0 : soundAlike(a, b) ? 5 : 15);
      }
    }
    weighs(3, 5, "b", "v");
    weighs(3, 5, "z", "c");
    weighs(3, 5, "at", "ad");
  }

  private static void missing() {
    NearFinder x = given();
    Given.ask(x, BAD, "a");
    DUE.is("in the entry", x.sumOf(0), 60);
    x.weight(4, 1000);
    DUE.is("in the entry, for 1000", x.sumOf(0), 1000);
    x.weight(4, 0);
    DUE.is("in the entry, for nothing", x.sumOf(0), 0);
    x = given("", "", A);
    DUE.is("among the asked", x.sumOf(0), 60);
    x.weight(4, 7);
    DUE.is("among the asked, for 7", x.sumOf(0), 7);
  }

  private static void turned() {
    NearFinder x = given(A, E);
    Given.ask(x, BAD, E, A);
    DUE.is("turned", x.sumOf(0), 20);
    x.weight(5, 119);
    DUE.is("turned for 119", x.sumOf(0), 119);
    x.weight(5, 0);
    DUE.is("turned for nothing", x.sumOf(0), 0);
    Given.ask(x, BAD, A, E);
    x.weight(5, 1000);
    DUE.is("not turned", x.sumOf(0), 0);
  }

  private static void changesAre(String asked, String inBook, int want, int... weights) {
    NearFinder x = given("", inBook);
    Given.weights(x, weights);
    Given.ask(x, BAD, "", "", asked);
    DUE.is(asked + " to " + inBook, x.changes(2, 0, 1), want);
  }

  private static void leastChanges() {
    changesAre("main", "main", 0);
    changesAre("abcd", "bcda", 20);
    changesAre("abab", "baba", 20);
    changesAre("kitten", "sitting", 5 + 15 + 10);
    changesAre("abcdefghij", "j", 90);
    changesAre("abcdefghij", "a", 90);
    changesAre("j", "abcdefghij", 90);
    changesAre(A, E, 150);
    // left out and put in, when both weigh less than an exchange
    changesAre("a", "e", 14, 7, 7, 15, 5);
    changesAre("a", "e", 15, 8, 7, 15, 5);
    changesAre("a", "e", 15, 8, 8, 15, 5);
    changesAre("b", "p", 4, 2, 2, 15, 5);
    // put in what the entry has more, left out what the asked word has more
    changesAre("ab", "aeib", 2, 1, 100, 100, 100);
    changesAre("aeib", "ab", 2, 100, 1, 100, 100);
    changesAre(A, E, 10000, 1000, 1000, 1000, 1000);
    changesAre(A, E, 0, 0, 0, 1000, 1000);
    changesAre(A, "e", 0, 1000, 0, 0, 1000);
    changesAre("a", E, 0, 0, 1000, 0, 1000);
  }

  private static void lesserOfKinds() {
    changesAre("b", "p", 14, 1000, 1000, 15, 14);
    changesAre("b", "p", 15, 1000, 1000, 15, 15);
    changesAre("b", "p", 15, 1000, 1000, 15, 16);
    changesAre("b", "p", 15, 1000, 1000, 15, 1000);
    changesAre("b", "p", 0, 1000, 1000, 0, 1000);
    changesAre("b", "p", 0, 1000, 1000, 1000, 0);
    // only for those that sound alike
    changesAre("b", "d", 15, 1000, 1000, 15, 0);
    changesAre("a", "e", 15, 1000, 1000, 15, 0);
  }

  private static void sumIs(NearFinder x, int want, String... asked) {
    Given.ask(x, BAD, asked);
    DUE.is("the sum of " + String.join(" ", asked), x.sumOf(0), want);
  }

  private static void eachWithOneAtMost() {
    sumIs(given(A), 60, A, A);
    sumIs(given(A), 120, A, A, A);
    sumIs(given(A, A), 60, A);
    sumIs(given(A, A, A), 120, "", A);
    sumIs(given(A, A, A), 60, A, A);
    sumIs(given(A, A, A), 0, A, A, A);
    sumIs(given(A, E), 60, A, A, E);
  }

  private static void changesOfAllPairs() {
    NearFinder x = given("ae", "io", "uy");
    Given.weights(x, 1, 10, 1000, 1000, 1000, 1000);
    sumIs(x, 3, "a", "i", "u");
    sumIs(x, 1, "ae", "io", "u");
    sumIs(x, 30, "aei", "ioe", "uya");
    // e put in, e left out, o left out and y put in
    sumIs(x, 1 + 10 + 11, "a", "ioe", "uo");
    sumIs(x, 1001, "a", "io");
  }

  private static void eachThatIsNotPaired() {
    for (int inBook = 0; inBook <= 3; inBook++) {
      for (int asked = 0; asked <= 3; asked++) {
        NearFinder x = new NearFinder();
        Given.entry(x, 0, Given.first(inBook, "aa", "ee", "ii"));
        Given.weights(x, 1000, 1000, 1000, 1000, 7, 20);
        Given.ask(x, BAD, Given.first(asked, "aa", "ee", "ii"));
        String what = asked + " asked, " + inBook + " in the entry";
        DUE.is(what + ", like ones", x.sumOf(0), 7 * Math.abs(asked - inBook));
        Given.ask(x, BAD, Given.first(asked, "oo", "uu", "yy"));
        DUE.is(what + ", unlike ones", x.sumOf(0), 7 * (asked + inBook));
      }
    }
  }

  private static void eachTwoPairs() {
    sumIs(given(A, E, I), 0, A, E, I);
    sumIs(given(A, E, I), 20, A, I, E);
    sumIs(given(A, E, I), 20, E, A, I);
    sumIs(given(A, E, I), 40, E, I, A);
    sumIs(given(A, E, I), 40, I, A, E);
    sumIs(given(A, E, I), 60, I, E, A);
    sumIs(given(A, "", I), 20, I, "", A);
    sumIs(given("", A, I), 20, I, A);
    sumIs(given("", A, I), 0, A, I);
    sumIs(given("", A, I), 0, A, "", I);
    sumIs(given("", "", I), 0, I);
    // a word that is not paired is not turned against the others
    sumIs(given(A, I), 60, A, E, I);
    sumIs(given(A, E), 60 + 20, E, I, A);
  }

  private static void leastOfAllWays() {
    NearFinder x = given("ab", "ef");
    Given.ask(x, BAD, "ef", "ab");
    DUE.is("turned", x.sumOf(0), 20);
    x.weight(5, 40);
    DUE.is("turned or exchanged, both 40", x.sumOf(0), 40);
    x.weight(5, 41);
    DUE.is("exchanged, not turned for 41", x.sumOf(0), 40);
    x.weight(2, 1000);
    x.weight(0, 1000);
    DUE.is("turned for 41, since exchanging weighs more", x.sumOf(0), 41);
    x.weight(5, 1000);
    DUE.is("one pair and two missing words", x.sumOf(0), 120);
    x.weight(4, 0);
    DUE.is("all missing, for nothing", x.sumOf(0), 0);
    x = given("a");
    x.weight(4, 7);
    sumIs(x, 14, "e");
    x.weight(4, 8);
    sumIs(x, 15, "e");
    x = given("a", "e", "i");
    Given.weights(x, 1000, 1000, 1000, 1000, 1000, 0);
    sumIs(x, 0, "i", "a", "e");
    x.weight(5, 1000);
    sumIs(x, 2000, "i", "a", "e");
  }
}
