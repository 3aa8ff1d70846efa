import java.util.function.Consumer;

/** Promises 4, 5 and 6, sentence by sentence: ask, asked and weight. */
final class AskEdgesTest {
  private static final int BAD = NearFinder.BAD;
  private static final int[] FIRST_WEIGHTS = {10, 10, 15, 5, 60, 20};
  private static final Due DUE = new Due();

  public static void main(String[] args) {
    Sentences document = new Sentences(DUE);
    document.under("Promise 4: ask");
    document.holds("A letter behind the others of a word that is asked.", AskEdgesTest::letterBehindTheOthers);
    document.holds("False: none such;", AskEdgesTest::noSuchLetter);
    document.holds("it has 10.", AskEdgesTest::wordHasTen);

    document.under("Promise 5: asked");
    document.holds("Nothing is asked any more, but a place, or any (BAD).", AskEdgesTest::nothingAnyMore);
    document.holds("False: no such place: nothing is changed.", AskEdgesTest::noSuchPlace);

    document.under("Promise 6: weight");
    document.holds("A weight: what it was.", AskEdgesTest::whatItWas);
    document.holds("BAD: none such.", AskEdgesTest::noSuchWeight);
    document.end();
  }

  private static void letterBehindTheOthers() {
    NearFinder x = new NearFinder();
    for (int word = 0; word < 3; word++) {
      for (int c = 8 * word; c < 8 * word + 10; c++) {
        DUE.isTrue("letter " + c + " of word " + word, x.ask(word, c));
      }
    }
    DUE.is("letters asked", x.count(2), 30);
    Given.entry(x, 0, "abcdefghij", "ijklmnopqr", "qrstuvwxyz");
    for (int word = 0; word < 3; word++) {
      DUE.is("word " + word + " is as told", x.changes(word, 0, word), 0);
    }
    for (String letter : new String[] {"e", "i", "o", "u"}) {
      NearFinder y = new NearFinder();
      Given.entry(y, 0, letter);
      Given.ask(y, BAD, "eio");
      // two are left out, and one is exchanged for u
      DUE.is("eio to " + letter, y.changes(0, 0, 0), letter.equals("u") ? 35 : 20);
    }
  }

  private static void noSuchLetter() {
    for (int word : Numbers.outside(0, 2)) {
      notAsked(word, 0);
    }
    for (int c : Numbers.outside(0, 25)) {
      notAsked(0, c);
      notAsked(2, c);
    }
    NearFinder x = new NearFinder();
    DUE.isTrue("the first of all", x.ask(0, 0));
    DUE.isTrue("the last of all", x.ask(2, 25));
  }

  private static void notAsked(int word, int c) {
    String call = "ask(" + word + ", " + c + ")";
    DUE.isFalse(call, new NearFinder().ask(word, c));
    State.stays(DUE, call, Given::much, x -> x.ask(word, c));
  }

  private static void wordHasTen() {
    for (int word = 0; word < 3; word++) {
      int which = word;
      Consumer<NearFinder> ten = x -> {
        Given.entry(x, 0, "abcdefghij", "z");
        for (int i = 0; i < 10; i++) {
          DUE.isTrue("letter " + i + " of word " + which, x.ask(which, i));
        }
      };
      State.stays(DUE, "an 11th letter of word " + word, ten, x -> x.ask(which, 25));

      NearFinder x = new NearFinder();
      ten.accept(x);
      DUE.isFalse("an 11th letter of word " + word, x.ask(word, 25));
      DUE.isFalse("a 12th letter of word " + word, x.ask(word, 0));
      DUE.is("letters asked", x.count(2), 10);
      for (int other = 0; other < 3; other++) {
        DUE.is("word " + other + " takes a letter", x.ask(other, 0) ? 1 : 0, other == word ? 0 : 1);
      }
      x.asked(BAD);
      DUE.isTrue("asked anew, word " + word + " takes a letter", x.ask(word, 0));
    }
  }

  private static void nothingAnyMore() {
    NearFinder x = new NearFinder();
    Given.entry(x, 0, "a");
    Given.entry(x, 999, "a");
    Given.ask(x, BAD, "aaaaaaaaaa", "b", "c");
    placeAlone(x, 0, 1);
    DUE.is("at place 0", x.found(0), 0);
    placeAlone(x, 999, 1);
    DUE.is("at place 999", x.found(0), 1);
    placeAlone(x, 998, 0);
    placeAlone(x, BAD, 2);
    placeAlone(x, BAD, 2);
  }

  private static void placeAlone(NearFinder x, int place, int found) {
    DUE.isTrue("asked(" + place + ")", x.asked(place));
    DUE.is("letters asked after asked(" + place + ")", x.count(2), 0);
    for (int word = 0; word < 3; word++) {
      DUE.is("word " + word + " after asked(" + place + ")", x.changes(word, 0, 0), BAD);
    }
    DUE.is("the sum after asked(" + place + ")", x.sumOf(0), 60);
    x.ask(1, 0);
    DUE.is("a letter anew after asked(" + place + ")", x.changes(1, 0, 0), 0);
    DUE.is("found after asked(" + place + ")", x.find(40, 0), found);
  }

  private static void noSuchPlace() {
    for (int place : Numbers.outside(-1, 999)) {
      DUE.isFalse("asked(" + place + ")", new NearFinder().asked(place));
      State.stays(DUE, "asked(" + place + ") when place 7 is", Given::much, x -> x.asked(place));
      State.stays(DUE, "asked(" + place + ") when any is", AskEdgesTest::muchOfAnyPlace, x -> x.asked(place));
      State.stays(DUE, "asked(" + place + ") when a place alone is", AskEdgesTest::aPlaceAlone, x -> x.asked(place));
    }
    DUE.isTrue("asked(0)", new NearFinder().asked(0));
    DUE.isTrue("asked(999)", new NearFinder().asked(999));
    DUE.isTrue("asked(BAD)", new NearFinder().asked(BAD));
  }

  private static void muchOfAnyPlace(NearFinder x) {
    Given.much(x);
    Given.ask(x, BAD, "ac", "b");
  }

  private static void aPlaceAlone(NearFinder x) {
    Given.much(x);
    x.asked(8);
  }

  private static void whatItWas() {
    NearFinder x = new NearFinder();
    for (int kind = 0; kind < 6; kind++) {
      DUE.is("the first of kind " + kind, x.weight(kind, 1000), FIRST_WEIGHTS[kind]);
      DUE.is("the greatest of kind " + kind, x.weight(kind, 0), 1000);
      DUE.is("the least of kind " + kind, x.weight(kind, 100 + kind), 0);
      DUE.is("the same again of kind " + kind, x.weight(kind, 100 + kind), 100 + kind);
    }
    for (int kind = 0; kind < 6; kind++) {
      DUE.is("kind " + kind + " has its own", x.weight(kind, 0), 100 + kind);
    }
    DUE.is("another object's", new NearFinder().weight(0, 0), 10);
  }

  private static void noSuchWeight() {
    for (int kind : Numbers.outside(0, 5)) {
      notWeighed(kind, 7);
    }
    for (int w : Numbers.outside(0, 1000)) {
      for (int kind = 0; kind < 6; kind++) {
        notWeighed(kind, w);
      }
    }
  }

  private static void notWeighed(int kind, int w) {
    String call = "weight(" + kind + ", " + w + ")";
    DUE.is(call, new NearFinder().weight(kind, w), BAD);
    State.stays(DUE, call, Given::much, x -> x.weight(kind, w));
  }
}
