/** All promises together: long runs of calls, made up in the same way each time, against the plain model. */
final class ModelTest {
  private static final int RUNS = 500;
  /** What an object answers after its 512th call is free; one step makes two calls at most. */
  private static final int CALLS = 511;
  private static final int[] FAR = {
    Integer.MIN_VALUE, Integer.MAX_VALUE, -2, -1, 3, 6, 26, 40, 41, 1000, 1001, 100000, 100001,
    1 << 30, 1431655765, 1431655766, 858993460, 143165577, -1073741824,
  };

  private static final Due DUE = new Due();

  private final int run;
  private final NearFinder x = new NearFinder();
  private final PlainModel model = new PlainModel();
  private final String letters;
  private final int mostWeight;
  private final int places;
  private long state;
  private int calls = 0;

  private ModelTest(int run) {
    this.run = run;
    state = run * 7919L + 17;
    String[] alphabets = {"ab", "abp", "aebpf", "mnaetd", "abcdefghijklmnopqrstuvwxyz"};
    letters = alphabets[below(alphabets.length)];
    mostWeight = new int[] {2, 20, 100, 1000}[below(4)];
    places = new int[] {1, 2, 3, 999}[below(4)];
  }

  public static void main(String[] args) {
    for (int run = 0; run < RUNS; run++) {
      ModelTest one = new ModelTest(run);
      int fill = one.below(CALLS * 3 / 4);
      while (one.calls < CALLS) {
        one.next(one.calls < fill);
      }
    }
    DUE.end();
  }

  private int below(int n) {
    state = state * 6364136223846793005L + 1442695040888963407L;
    return (int) ((state >>> 33) % n);
  }

  /** Mostly a number below n, at times one that lies outside. */
  private int number(int n) {
    return below(40) == 0 ? FAR[below(FAR.length)] : below(n);
  }

  private int anEntry() {
    return number(Math.max(1, model.count(0)));
  }

  private int aLetter() {
    return below(40) == 0 ? FAR[below(FAR.length)] : letters.charAt(below(letters.length())) - 'a';
  }

  private int aBound() {
    return below(8) == 0 ? number(100000) : number(new int[] {1, 30, 100, 300, 1000}[below(5)]);
  }

  private void due(String call, long got, long want) {
    calls++;
    DUE.is("run " + run + ": " + call, got, want);
  }

  private void due(String call, boolean got, boolean want) {
    due(call, got ? 1 : 0, want ? 1 : 0);
  }

  private void next(boolean filling) {
    int what = below(100);
    if (filling && what < 85) {
      fill(what);
    } else if (what < 40) {
      change(below(100));
    } else {
      look(below(100));
    }
  }

  private void fill(int what) {
    if (what < 12 || model.count(0) == 0) {
      int place = number(places);
      due("entry " + place, x.entry(place), model.entry(place));
    } else if (what < 65) {
      int entry = anEntry();
      int word = number(3);
      int c = aLetter();
      due("letter " + entry + " " + word + " " + c, x.letter(entry, word, c), model.letter(entry, word, c));
    } else {
      ask();
    }
  }

  private void ask() {
    int word = number(3);
    int c = aLetter();
    due("ask " + word + " " + c, x.ask(word, c), model.ask(word, c));
  }

  private void change(int what) {
    if (what < 20) {
      fill(below(65));
    } else if (what < 60) {
      ask();
    } else if (what < 64) {
      int place = below(2) == 0 ? -1 : number(places);
      due("asked " + place, x.asked(place), model.asked(place));
    } else if (what < 76) {
      int kind = number(6);
      int w = number(mostWeight + 1);
      due("weight " + kind + " " + w, x.weight(kind, w), model.weight(kind, w));
    } else if (what < 90) {
      int entry = anEntry();
      int day = number(below(2) == 0 ? 3 : 100001);
      due("learned " + entry + " " + day, x.learned(entry, day), model.learned(entry, day));
    } else {
      int entry = anEntry();
      boolean is = below(2) == 0;
      due("drop " + entry + " " + is, x.drop(entry, is), model.drop(entry, is));
    }
  }

  private void look(int what) {
    if (what < 35) {
      boolean byBounds = below(3) > 0;
      int k = number(below(2) == 0 ? 4 : 41);
      int bound = aBound();
      String call = (byBounds ? "find " : "scan ") + k + " " + bound;
      due(call, byBounds ? x.find(k, bound) : x.scan(k, bound), model.look(k, bound, byBounds));
      due(call + ", worked", x.worked(), model.worked());
    } else if (what < 60) {
      int i = number(1 + model.count(3));
      due("found " + i, x.found(i), model.found(i));
      due("sum " + i, x.sum(i), model.sum(i));
    } else if (what < 70) {
      int entry = anEntry();
      due("sumOf " + entry, x.sumOf(entry), model.sumOf(entry));
    } else if (what < 82) {
      int entry = anEntry();
      int word = number(3);
      due("pair " + entry + " " + word, x.pair(entry, word), model.pair(entry, word));
    } else if (what < 94) {
      int word = number(3);
      int entry = anEntry();
      int other = number(3);
      due("changes " + word + " " + entry + " " + other,
          x.changes(word, entry, other), model.changes(word, entry, other));
    } else {
      int which = number(6);
      due("count " + which, x.count(which), model.count(which));
    }
  }
}
