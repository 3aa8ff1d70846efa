import java.io.IOException;
import java.lang.reflect.Method;
import java.lang.reflect.Modifier;
import java.nio.file.Files;
import java.nio.file.Path;
import java.util.Collections;
import java.util.regex.Pattern;

/** What README.md says of the class: its example, its calls and the first weights; run from the project's folder. */
final class ReadmeTest {
  private static final Path OWN_TEXT = Path.of("src/test/java/ReadmeTest.java");
  private static final String EXAMPLE_STARTS = "    // The example's first line is next.\n";
  private static final String EXAMPLE_ENDS = "    // The example's last line was before.\n";

  private static final Due DUE = new Due();

  public static void main(String[] args) throws IOException {
    String readme = Files.readString(Path.of("README.md"));
    DUE.is("the example", between(readme, "```java\n", "```\n"), exampleBelow());
    exampleAnswersWhatItsCommentsSay();
    everyCallIsTold(readme);
    firstWeightsAreTold(readme);
    DUE.isTrue("README.md tells how to run the tests", readme.contains("\n    .ci/run\n"));
    everyTestThatIsToldIsThere(readme);
    DUE.end();
  }

  private static String between(String text, String start, String end) {
    int from = text.indexOf(start);
    int to = text.indexOf(end, from + start.length());
    return from < 0 || to < 0 ? "" : text.substring(from + start.length(), to);
  }

  /** The lines between the two comments in the method below, as they would stand outside of it. */
  private static String exampleBelow() throws IOException {
    return between(Files.readString(OWN_TEXT), EXAMPLE_STARTS, EXAMPLE_ENDS).replaceAll("(?m)^    ", "");
  }

  private static void exampleAnswersWhatItsCommentsSay() {
    // The example's first line is next.
    NearFinder finder = new NearFinder();

    int entry = finder.entry(7);              // 0: the first entry, at place 7
    for (char c : "main".toCharArray()) {
      finder.letter(entry, 0, c - 'a');       // its word 0
    }
    for (char c : "street".toCharArray()) {
      finder.letter(entry, 1, c - 'a');       // its word 1
    }

    finder.asked(NearFinder.BAD);             // ask anew, at any place
    for (char c : "mein".toCharArray()) {
      finder.ask(0, c - 'a');                 // word 0 that is asked
    }

    int n = finder.find(5, 100);              // 1: at most five, with sums of at most 100
    int nearest = finder.found(0);            // 0: the entry from above
    int sum = finder.sum(0);                  // 75: a letter exchanged (15), a word missing (60)
    int partner = finder.pair(nearest, 0);    // 0: the entry's word with which word 0 is paired
    // The example's last line was before.
    DUE.is("entry", entry, 0);
    DUE.is("n", n, 1);
    DUE.is("nearest", nearest, 0);
    DUE.is("sum", sum, 75);
    DUE.is("partner", partner, 0);
  }

  private static void everyCallIsTold(String readme) {
    for (Method method : NearFinder.class.getDeclaredMethods()) {
      if (Modifier.isPublic(method.getModifiers())) {
        String call = "`" + method.getName() + "\\(" + arguments(method.getParameterCount()) + "\\)`";
        DUE.isTrue("a row tells of " + call, hasRow(readme, "[^|\n]*" + call + "[^|\n]*\\|[^|\n]+"));
      }
    }
  }

  private static String arguments(int n) {
    return String.join(", ", Collections.nCopies(n, "[a-z]+"));
  }

  private static boolean hasRow(String readme, String pattern) {
    return Pattern.compile("\n\\|" + pattern + "\\|\n").matcher(readme).find();
  }

  private static void firstWeightsAreTold(String readme) {
    NearFinder finder = new NearFinder();
    for (int kind = 0; kind < 6; kind++) {
      String row = " " + kind + " \\|[^|\n]+\\| " + finder.weight(kind, 0) + " ";
      DUE.isTrue("a row tells the first weight of kind " + kind, hasRow(readme, row));
    }
  }

  private static void everyTestThatIsToldIsThere(String readme) {
    String[] told = {"FindTest", "ModelTest", "ChangesTest", "FaceTest", "LanguageTest", "DocumentTest", "ReadmeTest",
      "PlainModel", "State"};
    for (String name : told) {
      DUE.isTrue("README.md tells of " + name, readme.contains(name));
      DUE.isTrue(name + " is there", Files.exists(Path.of("src/test/java", name + ".java")));
    }
  }
}
