import java.util.Arrays;

/** Fills finders with words that are written as texts; "" is a word that is none. */
final class Given {
  private Given() {
  }

  static int entry(NearFinder x, int place, String... words) {
    int entry = x.entry(place);
    for (int word = 0; word < words.length; word++) {
      for (char c : words[word].toCharArray()) {
        if (!x.letter(entry, word, c - 'a')) {
          throw new IllegalStateException("a letter of " + words[word] + " was refused");
        }
      }
    }
    return entry;
  }

  static void ask(NearFinder x, int place, String... words) {
    if (!x.asked(place)) {
      throw new IllegalStateException("place " + place + " was refused");
    }
    for (int word = 0; word < words.length; word++) {
      for (char c : words[word].toCharArray()) {
        if (!x.ask(word, c - 'a')) {
          throw new IllegalStateException("a letter of " + words[word] + " was refused");
        }
      }
    }
  }

  static void weights(NearFinder x, int... weights) {
    for (int kind = 0; kind < weights.length; kind++) {
      x.weight(kind, weights[kind]);
    }
  }

  /** A state in which a change of anything can be seen: like entries, days, places, a dropped one, found ones. */
  static void much(NearFinder x) {
    for (int place : new int[] {7, 7, 8, 7, 7}) {
      entry(x, place, "ab", "", "c");
    }
    x.learned(1, 5);
    x.learned(4, 9);
    x.drop(3, true);
    x.weight(1, 12);
    ask(x, 7, "ac", "b");
    x.find(2, 200);
  }

  static void full(NearFinder x) {
    for (int i = 0; i < 40; i++) {
      entry(x, i, "a");
    }
    ask(x, NearFinder.BAD, "a");
    x.find(3, 200);
  }

  static String[] first(int n, String... words) {
    return Arrays.copyOf(words, n);
  }

  static String letters(char c, int times) {
    return String.valueOf(c).repeat(times);
  }
}
