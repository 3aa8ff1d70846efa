import java.util.ArrayList;
import java.util.List;

/** The document's words once more, in another form than the class has: texts, lists, recursion and sorting. */
final class PlainModel {
  private static final String[] ALIKE = {"bfpv", "cgjkqsxz", "dt", "mn"};

  private static final class Entry {
    int number;
    int place;
    int day = -1;
    int times = 0;
    boolean dropped = false;
    final String[] words = {"", "", ""};
  }

  private record Hit(Entry entry, int sum, int day) {
  }

  private record Way(int sum, List<Integer> partners) {
  }

  private interface Measure {
    int between(String asked, String inBook);
  }

  private final List<Entry> book = new ArrayList<>();
  private final int[] weights = {10, 10, 15, 5, 60, 20};
  private String[] askedWords = {"", "", ""};
  private int askedPlace = -1;
  private List<Hit> hits = new ArrayList<>();
  private int workedOut = 0;

  private Entry get(int entry) {
    return entry >= 0 && entry < book.size() ? book.get(entry) : null;
  }

  private static boolean within(int x, int from, int to) {
    return x >= from && x <= to;
  }

  int entry(int place) {
    if (!within(place, 0, 999) || book.size() == 40) {
      return -1;
    }
    Entry e = new Entry();
    e.number = book.size();
    e.place = place;
    book.add(e);
    return e.number;
  }

  boolean letter(int entry, int word, int c) {
    return get(entry) != null && append(get(entry).words, word, c);
  }

  boolean ask(int word, int c) {
    return append(askedWords, word, c);
  }

  private static boolean append(String[] words, int word, int c) {
    if (!within(word, 0, 2) || !within(c, 0, 25) || words[word].length() == 10) {
      return false;
    }
    words[word] += (char) ('a' + c);
    return true;
  }

  boolean asked(int place) {
    if (!within(place, -1, 999)) {
      return false;
    }
    askedPlace = place;
    askedWords = new String[] {"", "", ""};
    return true;
  }

  int weight(int kind, int w) {
    if (!within(kind, 0, 5) || !within(w, 0, 1000)) {
      return -1;
    }
    int before = weights[kind];
    weights[kind] = w;
    return before;
  }

  int look(int k, int bound, boolean byBounds) {
    if (!within(k, 1, 40) || bound < 0) {
      return -1;
    }
    hits = new ArrayList<>();
    workedOut = 0;
    if (String.join("", askedWords).isEmpty()) {
      return 0;
    }
    for (Entry e : book) {
      if (e.dropped || askedPlace != -1 && e.place != askedPlace) {
        continue;
      }
      if (byBounds) {
        int least = bestWay(e, this::leastChanges).sum;
        if (least > bound || hits.size() == k && least > hits.get(k - 1).sum) {
          continue;
        }
      }
      workedOut++;
      int sum = bestWay(e, this::changesBetween).sum;
      if (sum <= bound) {
        hits.add(new Hit(e, sum, e.day));
        hits.sort(PlainModel::compare);
        hits = new ArrayList<>(hits.subList(0, Math.min(k, hits.size())));
      }
    }
    return hits.size();
  }

  private static int compare(Hit a, Hit b) {
    if (a.sum != b.sum) {
      return Integer.compare(a.sum, b.sum);
    }
    if (a.day != b.day) {
      return Integer.compare(b.day, a.day);
    }
    return Integer.compare(a.entry.number, b.entry.number);
  }

  int worked() {
    return workedOut;
  }

  int found(int i) {
    return within(i, 0, hits.size() - 1) ? hits.get(i).entry.number : -1;
  }

  int sum(int i) {
    return within(i, 0, hits.size() - 1) ? hits.get(i).sum : -1;
  }

  int sumOf(int entry) {
    return get(entry) == null ? -1 : bestWay(get(entry), this::changesBetween).sum;
  }

  int pair(int entry, int word) {
    if (get(entry) == null || !within(word, 0, 2)) {
      return -1;
    }
    return bestWay(get(entry), this::changesBetween).partners.get(word);
  }

  int changes(int word, int entry, int other) {
    if (get(entry) == null || !within(word, 0, 2) || !within(other, 0, 2)) {
      return -1;
    }
    String asked = askedWords[word];
    String inBook = get(entry).words[other];
    return asked.isEmpty() || inBook.isEmpty() ? -1 : changesBetween(asked, inBook);
  }

  int learned(int entry, int day) {
    if (get(entry) == null || !within(day, 0, 100000)) {
      return -1;
    }
    get(entry).day = day;
    return ++get(entry).times;
  }

  int drop(int entry, boolean is) {
    if (get(entry) == null) {
      return -1;
    }
    boolean before = get(entry).dropped;
    get(entry).dropped = is;
    return before ? 1 : 0;
  }

  int count(int what) {
    int letters = 0;
    int dropped = 0;
    for (Entry e : book) {
      letters += String.join("", e.words).length();
      dropped += e.dropped ? 1 : 0;
    }
    int[] counts = {book.size(), letters, String.join("", askedWords).length(), hits.size(), dropped};
    return within(what, 0, 4) ? counts[what] : -1;
  }

  private int changesBetween(String from, String to) {
    return changesBetween(from, to, new int[11][11]);
  }

  /** By the words' ends: known[i][j] is one more than the changes of the first i and j letters, 0 for not known. */
  private int changesBetween(String from, String to, int[][] known) {
    int i = from.length();
    int j = to.length();
    if (i == 0 || j == 0) {
      return i * weights[1] + j * weights[0];
    }
    if (known[i][j] == 0) {
      String lessFrom = from.substring(0, i - 1);
      String lessTo = to.substring(0, j - 1);
      int exchange = changesBetween(lessFrom, lessTo, known) + exchange(from.charAt(i - 1), to.charAt(j - 1));
      int leftOut = changesBetween(lessFrom, to, known) + weights[1];
      int putIn = changesBetween(from, lessTo, known) + weights[0];
      known[i][j] = 1 + Math.min(exchange, Math.min(leftOut, putIn));
    }
    return known[i][j] - 1;
  }

  private int exchange(char a, char b) {
    if (a == b) {
      return 0;
    }
    for (String group : ALIKE) {
      if (group.indexOf(a) >= 0 && group.indexOf(b) >= 0) {
        return Math.min(weights[2], weights[3]);
      }
    }
    return weights[2];
  }

  private int leastChanges(String asked, String inBook) {
    int exchange = Math.min(weights[2], weights[3]);
    int a = beyond(asked, inBook) * Math.min(weights[1], exchange);
    int b = beyond(inBook, asked) * Math.min(weights[0], exchange);
    return Math.max(a, b);
  }

  private static int beyond(String one, String other) {
    int letters = 0;
    for (char c = 'a'; c <= 'z'; c++) {
      letters += Math.max(0, times(one, c) - times(other, c));
    }
    return letters;
  }

  private static int times(String word, char c) {
    int times = 0;
    for (int i = word.indexOf(c); i >= 0; i = word.indexOf(c, i + 1)) {
      times++;
    }
    return times;
  }

  private Way bestWay(Entry e, Measure measure) {
    return bestWay(e, measure, List.of());
  }

  /** The first of the best ways that start with these partners. */
  private Way bestWay(Entry e, Measure measure, List<Integer> partners) {
    if (partners.size() == 3) {
      return new Way(sumOfWay(e, measure, partners), partners);
    }
    Way best = null;
    for (int other = -1; other < 3; other++) {
      boolean isPair = other >= 0;
      if (isPair && (partners.contains(other) || e.words[other].isEmpty() || askedWords[partners.size()].isEmpty())) {
        continue;
      }
      List<Integer> more = new ArrayList<>(partners);
      more.add(other);
      Way way = bestWay(e, measure, more);
      if (best == null || way.sum < best.sum) {
        best = way;
      }
    }
    return best;
  }

  private int sumOfWay(Entry e, Measure measure, List<Integer> partners) {
    int sum = 0;
    for (int word = 0; word < 3; word++) {
      int other = partners.get(word);
      if (other >= 0) {
        sum += measure.between(askedWords[word], e.words[other]);
      }
      if (other < 0 && !askedWords[word].isEmpty()) {
        sum += weights[4];
      }
      if (!partners.contains(word) && !e.words[word].isEmpty()) {
        sum += weights[4];
      }
      for (int later = word + 1; later < 3; later++) {
        if (partners.get(later) >= 0 && other > partners.get(later)) {
          sum += weights[5];
        }
      }
    }
    return sum;
  }
}
