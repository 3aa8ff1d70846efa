import java.io.IOException;
import java.io.UncheckedIOException;
import java.nio.file.Files;
import java.nio.file.Path;

/**
 * Goes through parts of the document sentence by sentence, each with a test of its own. What is quoted must be what the
 * document says next under its heading, so that no sentence is left out; run from the project's folder.
 */
final class Sentences {
  private static final Path DOCUMENT = Path.of("../shared/DOC.md");

  private final Due due;
  private final String document;
  private String heading = "";
  private String rest = "";

  Sentences(Due due) {
    this.due = due;
    document = read();
  }

  /** The document, or nothing, if it is not there: the sentences' tests can be run without it. */
  static String read() {
    if (!Files.exists(DOCUMENT)) {
      System.out.println("there is no " + DOCUMENT + ": quotes are not compared with it");
      return "";
    }
    try {
      return Files.readString(DOCUMENT);
    } catch (IOException e) {
      throw new UncheckedIOException(e);
    }
  }

  void under(String heading) {
    due.about("");
    due.is("the words without a test under '" + this.heading + "'", rest, "");
    this.heading = heading;
    rest = textUnder(heading);
    due.is("'" + heading + "' is missing", rest.isEmpty() ? 1 : 0, document.isEmpty() ? 1 : 0);
  }

  void holds(String words, Runnable test) {
    due.about(heading + ", '" + words + "': ");
    takeNext(words);
    int before = due.compared();
    try {
      test.run();
    } catch (RuntimeException e) {
      e.printStackTrace(System.out);
      due.isTrue("the test ran to its end", false);
    }
    due.isTrue("the test compared something", due.compared() > before);
  }

  private void takeNext(String words) {
    if (document.isEmpty()) {
      return;
    }
    boolean isNext = rest.startsWith(words);
    due.isTrue("stands next in the document, which has '" + rest + "',", isNext);
    rest = isNext ? rest.substring(words.length()).strip() : rest;
  }

  void end() {
    due.about("");
    due.is("the words without a test under '" + heading + "'", rest, "");
    due.end();
  }

  /** In one line, without the marks round a text and the method's head. */
  private String textUnder(String heading) {
    int start = document.indexOf("## " + heading + "\n");
    if (start < 0) {
      return "";
    }
    String text = document.substring(document.indexOf('\n', start));
    int end = text.indexOf("\n## ");
    text = end < 0 ? text : text.substring(0, end);
    text = text.replaceAll("(?m)^```.*$", "").replaceAll("\\s+", " ").strip();
    return text.replaceFirst("^`[^`]*`: ", "");
  }
}
