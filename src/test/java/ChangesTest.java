import java.util.ArrayList;
import java.util.HashMap;
import java.util.List;
import java.util.Map;
import java.util.PriorityQueue;

/** Promise 14: changes. */
final class ChangesTest {
  private static final Due DUE = new Due();
  private static final String[] ALIKE = {"bfpv", "cgjkqsxz", "dt", "mn"};

  public static void main(String[] args) {
    wrongOnes();
    knownOnes();
    lettersThatSoundAlike();
    leastOfAllChains(10, 10, 15, 5);
    leastOfAllChains(1, 30, 12, 3);
    leastOfAllChains(30, 1, 12, 20);
    leastOfAllChains(4, 5, 100, 100);
    leastOfAllChains(4, 5, 100, 0);
    leastOfAllChains(0, 7, 3, 2);
    leastOfAllChains(7, 0, 3, 2);
    leastOfAllChains(9, 8, 0, 2);
    leastOfAllChains(1000, 1000, 1000, 1000);
    DUE.end();
  }

  private static void wrongOnes() {
    NearFinder x = new NearFinder();
    Given.entry(x, 0, "ab", "", "c");
    Given.ask(x, NearFinder.BAD, "ab", "", "c");
    for (int bad : new int[] {-1, 3, Integer.MIN_VALUE, Integer.MAX_VALUE}) {
      DUE.is("changes(" + bad + ", 0, 0)", x.changes(bad, 0, 0), -1);
      DUE.is("changes(0, " + bad + ", 0)", x.changes(0, bad, 0), -1);
      DUE.is("changes(0, 0, " + bad + ")", x.changes(0, 0, bad), -1);
    }
    DUE.is("no such entry", x.changes(0, 1, 0), -1);
    DUE.is("an asked word without letters", x.changes(1, 0, 0), -1);
    DUE.is("an entry's word without letters", x.changes(0, 0, 1), -1);
    DUE.is("both without letters", x.changes(1, 0, 1), -1);
    DUE.is("both with letters", x.changes(2, 0, 2), 0);
  }

  private static void known(String asked, String inBook, int want) {
    DUE.is(asked + " to " + inBook, changesOf(asked, inBook, 10, 10, 15, 5), want);
  }

  private static int changesOf(String asked, String inBook, int... weights) {
    NearFinder x = new NearFinder();
    Given.weights(x, weights);
    Given.entry(x, 0, "q", inBook);
    Given.ask(x, NearFinder.BAD, "", "", asked);
    return x.changes(2, 0, 1);
  }

  private static void knownOnes() {
    known("main", "main", 0);
    known("main", "nain", 5);
    known("main", "mean", 20);
    known("street", "streat", 15);
    known("street", "strit", 25);
    known("abc", "cba", 30);
    known("ab", "ba", 20);
    known("a", "aaaaaaaaaa", 90);
    known("aaaaaaaaaa", "a", 90);
    known("aaaaaaaaaa", "eeeeeeeeee", 150);
    known("bbbbbbbbbb", "pppppppppp", 50);
    known("abcdefghij", "bcdefghijk", 20);
    DUE.is("put in is for the entry's letters", changesOf("ab", "aeb", 1, 100, 100, 100), 1);
    DUE.is("left out is for the asked letters", changesOf("aeb", "ab", 100, 1, 100, 100), 1);
    DUE.is("left out and put in rather than exchanged", changesOf("a", "e", 3, 4, 8, 8), 7);
    DUE.is("the greatest", changesOf("aaaaaaaaaa", "eeeeeeeeee", 1000, 1000, 1000, 1000), 10000);
    DUE.is("for nothing", changesOf("aaaaaaaaaa", "eee", 0, 0, 1000, 1000), 0);
  }

  private static boolean soundAlike(char a, char b) {
    for (String group : ALIKE) {
      if (group.indexOf(a) >= 0 && group.indexOf(b) >= 0) {
        return true;
      }
    }
    return false;
  }

  private static void lettersThatSoundAlike() {
    for (char a = 'a'; a <= 'z'; a++) {
      for (char b = 'a'; b <= 'z'; b++) {
        known(String.valueOf(a), String.valueOf(b), a == b ? 0 : soundAlike(a, b) ? 5 : 15);
      }
    }
  }

  /** Against the least way through all words, which may change a letter more than once. */
  private static void leastOfAllChains(int... weights) {
    List<String> words = wordsUpTo(4);
    for (String from : words) {
      if (from.isEmpty() || from.length() > 2) {
        continue;
      }
      Map<String, Integer> least = leastFrom(from, weights);
      for (String to : words) {
        if (!to.isEmpty() && to.length() <= 3) {
          DUE.is(from + " to " + to, changesOf(from, to, weights), least.get(to));
        }
      }
    }
  }

  private static List<String> wordsUpTo(int length) {
    List<String> words = new ArrayList<>();
    words.add("");
    for (int i = 0; i < words.size(); i++) {
      if (words.get(i).length() < length) {
        for (char c : "aebp".toCharArray()) {
          words.add(words.get(i) + c);
        }
      }
    }
    return words;
  }

  private static Map<String, Integer> leastFrom(String from, int[] weights) {
    Map<String, Integer> least = new HashMap<>();
    PriorityQueue<Map.Entry<String, Integer>> open =
        new PriorityQueue<>((a, b) -> Integer.compare(a.getValue(), b.getValue()));
    open.add(Map.entry(from, 0));
    while (!open.isEmpty()) {
      Map.Entry<String, Integer> next = open.poll();
      if (least.putIfAbsent(next.getKey(), next.getValue()) == null) {
        addSteps(open, next.getKey(), next.getValue(), weights);
      }
    }
    return least;
  }

  private static void addSteps(
      PriorityQueue<Map.Entry<String, Integer>> open, String word, int sum, int[] weights) {
    for (int i = 0; i <= word.length(); i++) {
      String head = word.substring(0, i);
      String tail = word.substring(i);
      for (char c : "aebp".toCharArray()) {
        if (word.length() < 4) {
          open.add(Map.entry(head + c + tail, sum + weights[0]));
        }
        if (!tail.isEmpty() && tail.charAt(0) != c) {
          int weight = soundAlike(c, tail.charAt(0)) ? Math.min(weights[2], weights[3]) : weights[2];
          open.add(Map.entry(head + c + tail.substring(1), sum + weight));
        }
      }
      if (!tail.isEmpty()) {
        open.add(Map.entry(head + tail.substring(1), sum + weights[1]));
      }
    }
  }
}
