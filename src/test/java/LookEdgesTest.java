import java.util.function.Consumer;

/** Promises 7 to 11, sentence by sentence: find, scan, worked, found and sum. */
final class LookEdgesTest {
  private static final int BAD = NearFinder.BAD;
  private static final int ANY_BOUND = Integer.MAX_VALUE;
  private static final Due DUE = new Due();

  public static void main(String[] args) {
    Sentences document = new Sentences(DUE);
    document.under("Promise 7: find");
    document.holds(
        "Looks for entries by bounds that count letters: how many are found.", LookEdgesTest::howManyByBounds);
    document.holds("BAD, and nothing is changed: k not 1 .. 40,", LookEdgesTest::findRefusesK);
    document.holds("a bound below 0.", LookEdgesTest::findRefusesBound);
    document.holds("None, when nothing is asked.", LookEdgesTest::findWithNothingAsked);

    document.under("Promise 8: scan");
    document.holds("The same by scanning:", LookEdgesTest::sameByScanning);
    document.holds("all sums worked out.", LookEdgesTest::allSums);

    document.under("Promise 9: worked");
    document.holds(
        "How many sums the last find() or scan() that was not refused worked out", LookEdgesTest::lastNotRefused);
    document.holds("(scan(): of all that are not dropped,", LookEdgesTest::scanWithoutDropped);
    document.holds("and of the place;", LookEdgesTest::scanOfThePlace);
    document.holds("with nothing asked none).", LookEdgesTest::noSumsWithNothingAsked);
    document.holds("0 without one.", LookEdgesTest::noSumsWithoutLooking);

    document.under("Promise 10: found");
    document.holds("The i-th that was found.", LookEdgesTest::foundInOrder);
    document.holds("BAD: none such.", LookEdgesTest::noSuchFound);

    document.under("Promise 11: sum");
    document.holds("Its sum as it was found.", LookEdgesTest::sumAsFound);
    document.holds("BAD: none such.", LookEdgesTest::noSuchSum);
    document.end();
  }

  /** Sums are 10, 0, 20 and 60 when ab is asked; the last one has no words. */
  private static NearFinder fourEntries() {
    NearFinder x = new NearFinder();
    Given.entry(x, 1, "abc");
    Given.entry(x, 2, "ab");
    Given.entry(x, 1, "abca");
    Given.entry(x, 3);
    Given.ask(x, BAD, "ab");
    return x;
  }

  private static NearFinder fortyAlike() {
    NearFinder x = new NearFinder();
    Given.full(x);
    return x;
  }

  private static void howManyByBounds() {
    NearFinder x = fourEntries();
    DUE.is("all", x.find(40, ANY_BOUND), 4);
    DUE.is("all are found ones", x.count(3), 4);
    DUE.is("just k", x.find(4, 60), 4);
    DUE.is("k are fewer", x.find(3, 60), 3);
    DUE.is("the least k", x.find(1, 60), 1);
    DUE.is("the bound lets all but one in", x.find(40, 59), 3);
    DUE.is("the least bound", x.find(40, 0), 1);
    DUE.is("by bounds only one was worked out", x.worked(), 1);
    x.drop(1, true);
    DUE.is("none", x.find(40, 0), 0);
    DUE.is("none are found ones", x.count(3), 0);
    DUE.is("the greatest k and all that are there", fortyAlike().find(40, 0), 40);
    DUE.is("k of forty", fortyAlike().find(39, 0), 39);
  }

  private static void findRefusesK() {
    refusesK("find", NearFinder::find);
  }

  private static void findRefusesBound() {
    refusesBound("find", NearFinder::find);
  }

  private static void findWithNothingAsked() {
    noneWithNothingAsked("find", NearFinder::find);
  }

  private interface Look {
    int by(NearFinder x, int k, int bound);
  }

  private static void refusesK(String name, Look look) {
    for (int k : Numbers.outside(1, 40)) {
      refuses(name, look, k, 0);
      refuses(name, look, k, ANY_BOUND);
    }
    DUE.is(name + "(1, 0)", look.by(fourEntries(), 1, 0), 1);
    DUE.is(name + "(40, 0)", look.by(fortyAlike(), 40, 0), 40);
  }

  private static void refusesBound(String name, Look look) {
    for (int bound : new int[] {-1, -2, Integer.MIN_VALUE + 1, Integer.MIN_VALUE}) {
      refuses(name, look, 1, bound);
      refuses(name, look, 40, bound);
      refuses(name, look, 0, bound);
    }
    DUE.is(name + "(40, 0)", look.by(fourEntries(), 40, 0), 1);
    DUE.is(name + "(40, the greatest)", look.by(fourEntries(), 40, Integer.MAX_VALUE), 4);
  }

  private static void refuses(String name, Look look, int k, int bound) {
    String call = name + "(" + k + ", " + bound + ")";
    DUE.is(call + " on a new object", look.by(new NearFinder(), k, bound), BAD);
    DUE.is(call, look.by(fourEntries(), k, bound), BAD);
    State.stays(DUE, call, Given::much, x -> look.by(x, k, bound));
    Consumer<NearFinder> foundThenNothingAsked = x -> {
      Given.much(x);
      x.asked(7);
    };
    State.stays(DUE, call + " with nothing asked", foundThenNothingAsked, x -> look.by(x, k, bound));
  }

  private static void noneWithNothingAsked(String name, Look look) {
    for (int place : new int[] {BAD, 3, 999}) {
      NearFinder x = fourEntries();
      DUE.is("scan", x.scan(40, ANY_BOUND), 4);
      x.asked(place);
      // the entry without words has a sum of 0 now, and is not found all the same
      DUE.is("the sum of the entry without words", x.sumOf(3), 0);
      DUE.is(name + " with place " + place + " alone", look.by(x, 40, ANY_BOUND), 0);
      DUE.is("found ones after " + name, x.count(3), 0);
      DUE.is("the first after " + name, x.found(0), BAD);
      DUE.is("its sum after " + name, x.sum(0), BAD);
    }
    DUE.is(name + " on a new object", look.by(new NearFinder(), 1, 0), 0);
    for (int word = 0; word < 3; word++) {
      NearFinder x = fourEntries();
      x.asked(BAD);
      x.ask(word, 0);
      DUE.is(name + " with a letter of word " + word + " alone", look.by(x, 40, ANY_BOUND), 4);
    }
  }

  private static void sameByScanning() {
    refusesK("scan", NearFinder::scan);
    refusesBound("scan", NearFinder::scan);
    noneWithNothingAsked("scan", NearFinder::scan);
    for (int k : new int[] {1, 2, 3, 4, 40}) {
      for (int bound : new int[] {0, 1, 9, 10, 19, 20, 59, 60, Integer.MAX_VALUE}) {
        sameAsFind(k, bound);
      }
    }
  }

  private static void sameAsFind(int k, int bound) {
    NearFinder byBounds = fourEntries();
    NearFinder byScanning = fourEntries();
    String call = "scan(" + k + ", " + bound + ")";
    DUE.is(call, byScanning.scan(k, bound), byBounds.find(k, bound));
    DUE.is(call + ": found ones", byScanning.count(3), byBounds.count(3));
    for (int i = 0; i <= 4; i++) {
      DUE.is(call + ": found(" + i + ")", byScanning.found(i), byBounds.found(i));
      DUE.is(call + ": sum(" + i + ")", byScanning.sum(i), byBounds.sum(i));
    }
  }

  private static void allSums() {
    NearFinder x = fourEntries();
    x.scan(40, ANY_BOUND);
    DUE.is("when all are found", x.worked(), 4);
    x.scan(1, ANY_BOUND);
    DUE.is("when k are found", x.worked(), 4);
    x.scan(1, 0);
    DUE.is("beyond the bound", x.worked(), 4);
    x.drop(1, true);
    DUE.is("none are near enough", x.scan(40, 0), 0);
    DUE.is("also when none are found", x.worked(), 3);
    x = fortyAlike();
    x.scan(1, 0);
    DUE.is("of forty", x.worked(), 40);
  }

  private static void lastNotRefused() {
    NearFinder x = fourEntries();
    x.scan(1, 0);
    DUE.is("after a scan", x.worked(), 4);
    DUE.is("told again", x.worked(), 4);
    x.find(40, 0);
    DUE.is("after a find", x.worked(), 1);
    refusedOnes(x);
    DUE.is("after refused ones", x.worked(), 1);
    x.find(40, 59);
    DUE.is("after another find", x.worked(), 3);
    x.scan(40, 0);
    DUE.is("after another scan", x.worked(), 4);
    refusedOnes(x);
    DUE.is("after refused ones behind a scan", x.worked(), 4);
    Given.entry(x, 1, "ab");
    x.drop(0, true);
    x.asked(1);
    DUE.is("after other calls", x.worked(), 4);
  }

  private static void refusedOnes(NearFinder x) {
    x.find(0, 0);
    x.find(41, 0);
    x.find(1, -1);
    x.scan(0, 0);
    x.scan(41, 0);
    x.scan(1, -1);
  }

  private static void scanWithoutDropped() {
    NearFinder x = fourEntries();
    x.drop(0, true);
    x.drop(3, true);
    x.scan(40, ANY_BOUND);
    DUE.is("two dropped", x.worked(), 2);
    x.drop(0, false);
    x.scan(40, ANY_BOUND);
    DUE.is("one not any more", x.worked(), 3);
    for (int entry = 0; entry < 4; entry++) {
      x.drop(entry, true);
    }
    x.scan(40, ANY_BOUND);
    DUE.is("all dropped", x.worked(), 0);
  }

  private static void scanOfThePlace() {
    int[] placesAndSums = {1, 2, 2, 1, 3, 1, 0, 0, 999, 0, BAD, 4};
    for (int i = 0; i < placesAndSums.length; i += 2) {
      NearFinder x = fourEntries();
      Given.ask(x, placesAndSums[i], "ab");
      x.scan(40, ANY_BOUND);
      DUE.is("place " + placesAndSums[i], x.worked(), placesAndSums[i + 1]);
    }
    NearFinder x = fourEntries();
    Given.ask(x, 1, "ab");
    x.drop(2, true);
    x.scan(40, ANY_BOUND);
    DUE.is("place 1, one dropped", x.worked(), 1);
  }

  private static void noSumsWithNothingAsked() {
    NearFinder x = fourEntries();
    x.scan(40, ANY_BOUND);
    x.asked(BAD);
    DUE.is("nothing was looked for yet", x.worked(), 4);
    x.scan(40, ANY_BOUND);
    DUE.is("a scan of any place", x.worked(), 0);
    Given.ask(x, BAD, "ab");
    x.scan(40, ANY_BOUND);
    x.asked(1);
    x.scan(40, ANY_BOUND);
    DUE.is("a scan of a place", x.worked(), 0);
    Given.ask(x, BAD, "ab");
    x.scan(40, ANY_BOUND);
    x.asked(BAD);
    x.find(40, ANY_BOUND);
    DUE.is("a find", x.worked(), 0);
  }

  private static void noSumsWithoutLooking() {
    DUE.is("a new object", new NearFinder().worked(), 0);
    NearFinder x = fourEntries();
    DUE.is("entries and letters", x.worked(), 0);
    x.sumOf(0);
    x.pair(0, 0);
    x.changes(0, 0, 0);
    DUE.is("sums without looking", x.worked(), 0);
    refusedOnes(x);
    DUE.is("refused ones", x.worked(), 0);
  }

  private static void foundInOrder() {
    NearFinder x = fourEntries();
    x.find(40, ANY_BOUND);
    int[] order = {1, 0, 2, 3};
    for (int i = 0; i < 4; i++) {
      DUE.is("found(" + i + ")", x.found(i), order[i]);
    }
    DUE.is("found(0) again", x.found(0), 1);
    x = fortyAlike();
    x.find(40, 0);
    for (int i = 0; i < 40; i++) {
      DUE.is("found(" + i + ") of forty", x.found(i), i);
    }
  }

  private static void noSuchFound() {
    noneSuch("found", NearFinder::found);
  }

  private static void sumAsFound() {
    NearFinder x = fourEntries();
    x.find(40, ANY_BOUND);
    sumsAre("at once", x);
    x.weight(0, 1);
    x.letter(1, 0, 3);
    x.letter(3, 2, 3);
    x.drop(0, true);
    x.ask(0, 25);
    sumsAre("after changes", x);
    DUE.is("the sum now is another one", x.sumOf(1), 11);
    x.asked(3);
    sumsAre("with nothing asked any more", x);
  }

  private static void sumsAre(String when, NearFinder x) {
    int[] sums = {0, 10, 20, 60};
    for (int i = 0; i < 4; i++) {
      DUE.is("sum(" + i + ") " + when, x.sum(i), sums[i]);
    }
  }

  private static void noSuchSum() {
    noneSuch("sum", NearFinder::sum);
  }

  private interface Tell {
    int of(NearFinder x, int i);
  }

  private static void noneSuch(String name, Tell tell) {
    outside("a new object: " + name, tell, new NearFinder(), 0);
    NearFinder x = fourEntries();
    outside("nothing was looked for: " + name, tell, x, 0);
    x.find(40, ANY_BOUND);
    outside("four are found: " + name, tell, x, 4);
    x.scan(2, ANY_BOUND);
    outside("then two: " + name, tell, x, 2);
    x.find(41, ANY_BOUND);
    outside("a refused find leaves two: " + name, tell, x, 2);
    x.asked(BAD);
    x.find(2, ANY_BOUND);
    outside("then none: " + name, tell, x, 0);
    x = fortyAlike();
    x.find(40, 0);
    outside("forty are found: " + name, tell, x, 40);
  }

  private static void outside(String what, Tell tell, NearFinder x, int found) {
    for (int i : Numbers.outside(0, found - 1)) {
      DUE.is(what + "(" + i + ")", tell.of(x, i), BAD);
    }
    if (found > 0) {
      DUE.isTrue(what + "(0) is there", tell.of(x, 0) >= 0);
      DUE.isTrue(what + "(" + (found - 1) + ") is there", tell.of(x, found - 1) >= 0);
    }
  }
}
