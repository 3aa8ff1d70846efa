import java.util.function.Consumer;

/** Promises 1, 2, 3, 15 and 16, sentence by sentence: a new object, entry, letter, learned and drop. */
final class BookEdgesTest {
  private static final int BAD = NearFinder.BAD;
  private static final Due DUE = new Due();

  public static void main(String[] args) {
    Sentences document = new Sentences(DUE);
    document.under("Promise 1: A new object");
    document.holds("No entries,", BookEdgesTest::noEntries);
    document.holds("nothing asked,", BookEdgesTest::nothingAsked);
    document.holds("any place.", BookEdgesTest::anyPlace);

    document.under("Promise 2: entry");
    document.holds("One more entry, without words: which one.", BookEdgesTest::oneMoreEntry);
    document.holds("BAD: no such place,", BookEdgesTest::noSuchPlace);
    document.holds("there are 40.", BookEdgesTest::thereAreForty);
    document.holds(
        "What was found stays (so with all that changes the book or the weights).", BookEdgesTest::whatWasFoundStays);

    document.under("Promise 3: letter");
    document.holds("A letter behind the others of an entry's word.", BookEdgesTest::letterBehindTheOthers);
    document.holds("False: none such;", BookEdgesTest::noSuchLetter);
    document.holds("it has 10.", BookEdgesTest::wordHasTen);

    document.under("Promise 15: learned");
    document.holds("An entry is learned on a day (0 .. 100,000):", BookEdgesTest::learnedOnADay);
    document.holds("how often it was.", BookEdgesTest::howOften);
    document.holds("BAD: none such.", BookEdgesTest::noneSuchToLearn);
    document.holds("(The latest day told counts, also if it is earlier.)", BookEdgesTest::latestDayTold);

    document.under("Promise 16: drop");
    document.holds("An entry is dropped, or not any more:", BookEdgesTest::droppedOrNot);
    document.holds("1 or 0 as it was.", BookEdgesTest::asItWas);
    document.holds("BAD: none such.", BookEdgesTest::noneSuchToDrop);
    document.end();
  }

  private static void noEntries() {
    NearFinder x = new NearFinder();
    DUE.is("entries", x.count(0), 0);
    DUE.is("letters in the book", x.count(1), 0);
    DUE.is("dropped ones", x.count(4), 0);
    DUE.isFalse("letter of entry 0", x.letter(0, 0, 0));
    DUE.is("sum of entry 0", x.sumOf(0), BAD);
    DUE.is("entry 0 dropped", x.drop(0, true), BAD);
    DUE.is("entry 0 learned", x.learned(0, 0), BAD);
    x.ask(0, 0);
    DUE.is("find in an empty book", x.find(40, Integer.MAX_VALUE), 0);
    DUE.is("scan in an empty book", x.scan(40, Integer.MAX_VALUE), 0);
    DUE.is("sums worked out in an empty book", x.worked(), 0);
    DUE.is("the first entry", x.entry(0), 0);
    DUE.is("entries of another new object", new NearFinder().count(0), 0);
  }

  private static void nothingAsked() {
    NearFinder x = new NearFinder();
    DUE.is("letters asked", x.count(2), 0);
    Given.entry(x, 0, "a");
    Given.entry(x, 0);
    DUE.is("find", x.find(40, Integer.MAX_VALUE), 0);
    DUE.is("scan", x.scan(40, Integer.MAX_VALUE), 0);
    DUE.is("the entry's word alone is missing", x.sumOf(0), 60);
    DUE.is("no word on either side", x.sumOf(1), 0);
    for (int word = 0; word < 3; word++) {
      DUE.is("changes from word " + word, x.changes(word, 0, 0), BAD);
      DUE.is("pair of word " + word, x.pair(0, word), BAD);
    }
  }

  private static void anyPlace() {
    NearFinder x = new NearFinder();
    for (int place : new int[] {0, 1, 500, 999}) {
      Given.entry(x, place, "a");
    }
    x.ask(0, 0);
    DUE.is("find", x.find(40, 0), 4);
    DUE.is("scan", x.scan(40, 0), 4);
  }

  private static void oneMoreEntry() {
    NearFinder x = new NearFinder();
    DUE.is("first", Given.entry(x, 7, "aaaaaaaaaa", "aaaaaaaaaa", "aaaaaaaaaa"), 0);
    DUE.is("second, of the same place", x.entry(7), 1);
    DUE.is("third", x.entry(8), 2);
    DUE.is("entries", x.count(0), 3);
    DUE.is("letters are those of the first alone", x.count(1), 30);
    DUE.is("words of the second", x.sumOf(1), 0);
    x.ask(0, 0);
    for (int other = 0; other < 3; other++) {
      DUE.is("the second has no word " + other, x.changes(0, 1, other), BAD);
    }
  }

  private static void noSuchPlace() {
    for (int place : Numbers.outside(0, 999)) {
      DUE.is("entry(" + place + ")", new NearFinder().entry(place), BAD);
      State.stays(DUE, "entry(" + place + ")", Given::much, x -> x.entry(place));
    }
    DUE.is("entry(0)", new NearFinder().entry(0), 0);
    DUE.is("entry(999)", new NearFinder().entry(999), 0);
  }

  private static void thereAreForty() {
    NearFinder x = new NearFinder();
    for (int entry = 0; entry < 40; entry++) {
      DUE.is("entry " + entry, x.entry(entry), entry);
    }
    DUE.is("one more", x.entry(0), BAD);
    DUE.is("and one more", x.entry(999), BAD);
    DUE.is("entries", x.count(0), 40);
    x.drop(0, true);
    x.drop(39, true);
    DUE.is("dropped ones are still there", x.entry(0), BAD);
    DUE.is("one more, of no such place", x.entry(1000), BAD);
    State.stays(DUE, "one more", Given::full, y -> y.entry(0));
  }

  private static void whatWasFoundStays() {
    stays("entry", x -> Given.entry(x, 7, "ac", "b"));
    stays("letter of a found one", x -> x.letter(1, 0, 25));
    stays("letter of another one", x -> x.letter(0, 1, 1));
    stays("learned", x -> x.learned(0, 100));
    stays("drop", x -> x.drop(4, true));
    stays("drop of one that was", x -> x.drop(3, false));
    for (int kind = 0; kind < 6; kind++) {
      int which = kind;
      stays("weight of kind " + kind, x -> x.weight(which, 999));
    }
  }

  private static void stays(String change, Consumer<NearFinder> call) {
    NearFinder x = new NearFinder();
    Given.much(x);
    call.accept(x);
    DUE.is("after " + change + ": found ones", x.count(3), 2);
    DUE.is("after " + change + ": the first", x.found(0), 4);
    DUE.is("after " + change + ": the second", x.found(1), 1);
    // ac to ab and b to c are an exchange each
    DUE.is("after " + change + ": the first one's sum", x.sum(0), 30);
    DUE.is("after " + change + ": the second one's sum", x.sum(1), 30);
    DUE.is("after " + change + ": worked", x.worked(), 3);
  }

  private static void letterBehindTheOthers() {
    NearFinder x = new NearFinder();
    x.entry(0);
    x.entry(0);
    for (int word = 0; word < 3; word++) {
      for (int c = 8 * word; c < 8 * word + 10; c++) {
        DUE.isTrue("letter " + c + " of word " + word, x.letter(1, word, c));
      }
    }
    DUE.is("letters in the book", x.count(1), 30);
    Given.ask(x, BAD, "abcdefghij", "ijklmnopqr", "qrstuvwxyz");
    for (int word = 0; word < 3; word++) {
      DUE.is("word " + word + " is as told", x.changes(word, 1, word), 0);
      DUE.is("entry 0 has no word " + word, x.changes(word, 0, word), BAD);
    }
    for (String letter : new String[] {"e", "i", "o", "u"}) {
      NearFinder y = new NearFinder();
      Given.entry(y, 0, "eio");
      Given.ask(y, BAD, letter);
      // two are put in, and u is exchanged
      DUE.is(letter + " to eio", y.changes(0, 0, 0), letter.equals("u") ? 35 : 20);
    }
  }

  private static void noSuchLetter() {
    for (int entry : Numbers.outside(0, 4)) {
      noLetter(entry, 1, 1);
    }
    noLetter(40, 0, 0);
    for (int word : Numbers.outside(0, 2)) {
      noLetter(0, word, 1);
      noLetter(4, word, 1);
    }
    for (int c : Numbers.outside(0, 25)) {
      noLetter(0, 0, c);
      noLetter(4, 1, c);
    }
    NearFinder x = new NearFinder();
    DUE.isFalse("letter of no entry", x.letter(0, 0, 0));
    x.entry(0);
    DUE.isTrue("the first of all", x.letter(0, 0, 0));
    DUE.isTrue("the last of all", x.letter(0, 2, 25));
  }

  private static void noLetter(int entry, int word, int c) {
    String call = "letter(" + entry + ", " + word + ", " + c + ")";
    NearFinder given = new NearFinder();
    Given.much(given);
    DUE.isFalse(call, given.letter(entry, word, c));
    State.stays(DUE, call, Given::much, x -> x.letter(entry, word, c));
  }

  private static void wordHasTen() {
    for (int word = 0; word < 3; word++) {
      int which = word;
      Consumer<NearFinder> ten = x -> {
        x.entry(0);
        x.entry(0);
        x.ask(0, 25);
        for (int i = 0; i < 10; i++) {
          DUE.isTrue("letter " + i + " of word " + which, x.letter(0, which, i));
        }
      };
      State.stays(DUE, "an 11th letter of word " + word, ten, x -> x.letter(0, which, 25));

      NearFinder x = new NearFinder();
      ten.accept(x);
      DUE.isFalse("an 11th letter of word " + word, x.letter(0, word, 25));
      DUE.isFalse("a 12th letter of word " + word, x.letter(0, word, 0));
      DUE.is("letters in the book", x.count(1), 10);
      for (int other = 0; other < 3; other++) {
        DUE.is("word " + other + " takes a letter", x.letter(0, other, 0) ? 1 : 0, other == word ? 0 : 1);
        DUE.isTrue("word " + other + " of the next entry takes a letter", x.letter(1, other, 0));
      }
    }
  }

  private static NearFinder alike(int entries) {
    NearFinder x = new NearFinder();
    for (int i = 0; i < entries; i++) {
      Given.entry(x, 0, "a");
    }
    Given.ask(x, BAD, "a");
    return x;
  }

  private static void order(String what, NearFinder x, int... entries) {
    DUE.is(what + ": find", x.find(40, 0), entries.length);
    for (int i = 0; i < entries.length; i++) {
      DUE.is(what + ": found(" + i + ")", x.found(i), entries[i]);
    }
    DUE.is(what + ": scan", x.scan(40, 0), entries.length);
    for (int i = 0; i < entries.length; i++) {
      DUE.is(what + ": found(" + i + ") by scanning", x.found(i), entries[i]);
    }
  }

  private static void learnedOnADay() {
    NearFinder x = alike(4);
    DUE.is("day 0", x.learned(3, 0), 1);
    order("day 0 is later than never", x, 3, 0, 1, 2);
    DUE.is("day 99999", x.learned(1, 99999), 1);
    DUE.is("day 100000", x.learned(2, 100000), 1);
    order("day 100000 is the latest", x, 2, 1, 3, 0);
  }

  private static void howOften() {
    NearFinder x = alike(2);
    DUE.is("the first time", x.learned(0, 4), 1);
    DUE.is("the second time, on the same day", x.learned(0, 4), 2);
    DUE.is("a refused time", x.learned(0, 100001), BAD);
    DUE.is("the third time, on an earlier day", x.learned(0, 3), 3);
    DUE.is("another one's first time", x.learned(1, 4), 1);
    x.drop(0, true);
    DUE.is("the fourth time, dropped", x.learned(0, 9), 4);
  }

  private static void noneSuchToLearn() {
    for (int entry : Numbers.outside(0, 4)) {
      notLearned(entry, 3);
    }
    notLearned(40, 3);
    for (int day : Numbers.outside(0, 100000)) {
      notLearned(0, day);
      notLearned(1, day);
    }
    DUE.is("in an empty book", new NearFinder().learned(0, 0), BAD);
  }

  private static void notLearned(int entry, int day) {
    String call = "learned(" + entry + ", " + day + ")";
    NearFinder given = new NearFinder();
    Given.much(given);
    DUE.is(call, given.learned(entry, day), BAD);
    State.stays(DUE, call, Given::much, x -> x.learned(entry, day));
  }

  private static void latestDayTold() {
    NearFinder x = alike(2);
    x.learned(0, 50);
    x.learned(1, 60);
    order("told once each", x, 1, 0);
    x.learned(1, 40);
    order("told an earlier day", x, 0, 1);
    x.learned(0, 0);
    order("told the earliest day", x, 1, 0);
    x.learned(0, 41);
    order("told a later day", x, 0, 1);
  }

  private static void droppedOrNot() {
    NearFinder x = alike(3);
    x.drop(0, true);
    x.drop(2, true);
    order("two are dropped", x, 1);
    DUE.is("dropped ones", x.count(4), 2);
    x.drop(2, false);
    order("one not any more", x, 1, 2);
    DUE.is("dropped ones then", x.count(4), 1);
    x.drop(1, true);
    x.drop(2, true);
    order("all are dropped", x);
    DUE.is("dropped ones at last", x.count(4), 3);
  }

  private static void asItWas() {
    NearFinder x = alike(2);
    DUE.is("not dropped, not dropped again", x.drop(1, false), 0);
    DUE.is("not dropped, dropped", x.drop(1, true), 0);
    DUE.is("dropped, dropped again", x.drop(1, true), 1);
    DUE.is("another one was not dropped", x.drop(0, true), 0);
    DUE.is("dropped, not any more", x.drop(1, false), 1);
    DUE.is("then it was not", x.drop(1, false), 0);
  }

  private static void noneSuchToDrop() {
    for (int entry : Numbers.outside(0, 4)) {
      for (boolean is : new boolean[] {true, false}) {
        String call = "drop(" + entry + ", " + is + ")";
        NearFinder given = new NearFinder();
        Given.much(given);
        DUE.is(call, given.drop(entry, is), BAD);
        State.stays(DUE, call, Given::much, x -> x.drop(entry, is));
      }
    }
    DUE.is("in an empty book", new NearFinder().drop(0, true), BAD);
    NearFinder full = new NearFinder();
    Given.full(full);
    DUE.is("the last of forty", full.drop(39, true), 0);
    DUE.is("one behind the last of forty", full.drop(40, true), BAD);
  }
}
