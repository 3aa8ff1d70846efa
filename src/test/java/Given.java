/** Fills finders with words that are written as texts; "" is a word that is none. */
final class Given {
  private Given() {
  }

  static int entry(NearFinder x, int place, String... words) {
    int entry = x.entry(place);
    for (int word = 0; word < words.length; word++) {
      for (char c : words[word].toCharArray()) {
        if (!x.letter(entry, word, c - 'a')) {
          throw new IllegalStateException("a letter of " + words[word] + " was refused");
        }
      }
    }
    return entry;
  }

  static void ask(NearFinder x, int place, String... words) {
    if (!x.asked(place)) {
      throw new IllegalStateException("place " + place + " was refused");
    }
    for (int word = 0; word < words.length; word++) {
      for (char c : words[word].toCharArray()) {
        if (!x.ask(word, c - 'a')) {
          throw new IllegalStateException("a letter of " + words[word] + " was refused");
        }
      }
    }
  }

  static void weights(NearFinder x, int... weights) {
    for (int kind = 0; kind < weights.length; kind++) {
      x.weight(kind, weights[kind]);
    }
  }

  static String letters(char c, int times) {
    return String.valueOf(c).repeat(times);
  }
}
