import java.util.Set;
import java.util.TreeSet;
import java.util.function.Consumer;

/** All that can be seen of a finder's state. */
final class State {
  private State() {
  }

  /** Two finders get the same calls, one of them a call more, which must change nothing. */
  static void stays(Due due, String call, Consumer<NearFinder> given, Consumer<NearFinder> callMore) {
    NearFinder without = new NearFinder();
    given.accept(without);
    NearFinder with = new NearFinder();
    given.accept(with);
    callMore.accept(with);
    due.is("the state after " + call, of(with), of(without));
  }

  /** Some 200 calls at most, which change the finder: it is not to be used any more. */
  static String of(NearFinder x) {
    StringBuilder text = new StringBuilder();
    for (int what = 0; what <= 4; what++) {
      text.append("count ").append(x.count(what)).append(' ');
    }
    found(x, text);
    Set<Integer> entries = someEntries(x.count(0));
    for (int entry : entries) {
      sums(x, entry, text);
    }
    text.append("with q: ").append(x.ask(2, 16)).append(' ').append(x.scan(40, Integer.MAX_VALUE)).append(' ');
    found(x, text);
    for (int entry : entries) {
      text.append("dropped ").append(x.drop(entry, false)).append(' ');
      text.append("learned ").append(x.learned(entry, 0)).append(' ');
    }
    text.append("weights ");
    for (int kind = 0; kind < 6; kind++) {
      text.append(x.weight(kind, 0)).append(' ');
    }
    return text.append("next entry ").append(x.entry(0)).toString();
  }

  /** The first and the last ones: all of forty would be more calls than the document has for an object. */
  private static Set<Integer> someEntries(int entries) {
    Set<Integer> some = new TreeSet<>();
    for (int i = 0; i < Math.min(3, entries); i++) {
      some.add(i);
      some.add(entries - 1 - i);
    }
    return some;
  }

  private static void found(NearFinder x, StringBuilder text) {
    text.append("worked ").append(x.worked()).append(", found ");
    for (int i = 0; i < Math.min(5, x.count(3)); i++) {
      text.append(x.found(i)).append(" by ").append(x.sum(i)).append(' ');
    }
  }

  private static void sums(NearFinder x, int entry, StringBuilder text) {
    text.append("entry ").append(entry).append(": ").append(x.sumOf(entry)).append(' ');
    for (int word = 0; word < 3; word++) {
      text.append("pair ").append(x.pair(entry, word)).append(", changes ");
      for (int other = 0; other < 3; other++) {
        text.append(x.changes(word, entry, other)).append(' ');
      }
    }
  }
}
