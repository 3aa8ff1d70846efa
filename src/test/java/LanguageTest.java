import java.io.IOException;
import java.nio.file.Files;
import java.nio.file.Path;
import java.util.regex.Matcher;
import java.util.regex.Pattern;

/** Rules of LANGUAGE.md that the text of the class shows; run from the project's folder. */
final class LanguageTest {
  private static final String[] NOT_THERE = {
    "\\bpackage\\b", "\\bimport\\b", "->", "::", "\\bcatch\\b", "\\bfinally\\b", "\\bsynchronized\\b", "\\bassert\\b",
    "\\bnative\\b", "\\bThread\\b", "\\bSystem\\.(?!arraycopy)", "\\bObject\\b", "Exact\\b", "\\bstatic\\s*\\{",
    "\\bgetMessage\\b", "\\bequals\\b", "\\bhashCode\\b", "\\btoString\\b", "\\bMath\\.random\\b", "\\[\\]\\[\\]\\[\\]",
  };
  /** All that is thrown: the one exception of the document. */
  private static final String THROWN = "throw new ArithmeticException(\"\")";

  public static void main(String[] args) throws IOException {
    Due due = new Due();
    String code = withoutComments(Files.readString(Path.of("src/main/java/NearFinder.java")));
    for (String pattern : NOT_THERE) {
      due.isFalse("the class has " + pattern, Pattern.compile(pattern).matcher(code).find());
    }
    Matcher thrown = Pattern.compile("\\bthrow\\b[^;]*").matcher(code);
    while (thrown.find()) {
      due.isTrue(thrown.group(), thrown.group().equals(THROWN));
    }
    due.isTrue("characters up to 255 alone", code.chars().allMatch(c -> c <= 255));
    due.end();
  }

  private static String withoutComments(String code) {
    return code.replaceAll("\"[^\"\\n]*\"", "\"\"").replaceAll("(?s)/\\*.*?\\*/", "").replaceAll("//[^\\n]*", "");
  }
}
