/** Promises 2 and 3: entry and letter. */
final class BookTest {
  private static final Due DUE = new Due();

  public static void main(String[] args) {
    placesAndNumbers();
    lettersOfWords();
    whatWasFoundStays();
    DUE.end();
  }

  private static void placesAndNumbers() {
    NearFinder x = new NearFinder();
    for (int place : new int[] {-1, 1000, Integer.MIN_VALUE, Integer.MAX_VALUE}) {
      DUE.is("entry at place " + place, x.entry(place), -1);
    }
    DUE.is("refused entries are none", x.count(0), 0);
    DUE.is("first entry, least place", x.entry(0), 0);
    DUE.is("second entry, greatest place", x.entry(999), 1);
    for (int entry = 2; entry < 40; entry++) {
      DUE.is("entry " + entry, x.entry(5), entry);
    }
    DUE.is("a 41st entry", x.entry(5), -1);
    DUE.is("entries", x.count(0), 40);
    DUE.isTrue("letter of the last entry", x.letter(39, 2, 25));
    DUE.isFalse("letter of one behind the last", x.letter(40, 2, 25));
    DUE.is("an entry without words: one word asked is missing", askedAlone(x).sumOf(1), 60);
  }

  private static NearFinder askedAlone(NearFinder x) {
    Given.ask(x, NearFinder.BAD, "a");
    return x;
  }

  private static void lettersOfWords() {
    NearFinder x = new NearFinder();
    DUE.isFalse("letter of no entry", x.letter(0, 0, 0));
    x.entry(1);
    x.entry(1);
    int[] outside = {-1, Integer.MIN_VALUE, Integer.MAX_VALUE};
    for (int bad : outside) {
      DUE.isFalse("letter of entry " + bad, x.letter(bad, 0, 0));
      DUE.isFalse("letter of word " + bad, x.letter(0, bad, 0));
      DUE.isFalse("letter " + bad, x.letter(0, 0, bad));
    }
    DUE.isFalse("letter of entry 2", x.letter(2, 0, 0));
    DUE.isFalse("letter of word 3", x.letter(0, 3, 0));
    DUE.isFalse("letter 26", x.letter(0, 0, 26));
    DUE.is("refused letters are none", x.count(1), 0);
    for (int word = 0; word < 3; word++) {
      for (int i = 0; i < 10; i++) {
        DUE.isTrue("letter " + i + " of word " + word, x.letter(0, word, 25 - i));
      }
      DUE.isFalse("an 11th letter of word " + word, x.letter(0, word, 0));
    }
    DUE.is("letters in the book", x.count(1), 30);
    DUE.isTrue("another entry's words are its own", x.letter(1, 0, 0));

    Given.ask(x, NearFinder.BAD, "zyxwvutsrq");
    DUE.is("letters stand one behind the other", x.changes(0, 0, 0), 0);
    DUE.is("the same letters in the next word", x.changes(0, 0, 1), 0);
    x.drop(1, true);
    DUE.isTrue("letter of a dropped entry", x.letter(1, 1, 0));
  }

  private static void whatWasFoundStays() {
    NearFinder x = new NearFinder();
    Given.entry(x, 1, "ab");
    Given.ask(x, NearFinder.BAD, "abc");
    DUE.is("found", x.find(1, 50), 1);
    Given.entry(x, 1, "abc");
    x.letter(0, 0, 25);
    x.weight(0, 999);
    x.drop(0, true);
    x.learned(0, 9);
    Given.ask(x, 7, "q");
    DUE.is("found ones stay", x.count(3), 1);
    DUE.is("the found one stays", x.found(0), 0);
    DUE.is("its sum stays", x.sum(0), 10);
    DUE.is("what was worked stays", x.worked(), 1);
  }
}
