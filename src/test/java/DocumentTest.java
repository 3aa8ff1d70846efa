import java.lang.reflect.Method;
import java.lang.reflect.Modifier;
import java.util.ArrayList;
import java.util.Arrays;
import java.util.Collections;
import java.util.List;
import java.util.regex.Matcher;
import java.util.regex.Pattern;

/**
 * The document's headings are those for which there are tests, and its face and each promise's head are the class's
 * own, so that nothing new in it goes by without a test; run from the project's folder.
 */
final class DocumentTest {
  private static final List<String> HEADINGS = List.of(
      "What it is", "The public face", "Terms",
      "Promise 1: A new object", "Promise 2: entry", "Promise 3: letter", "Promise 4: ask", "Promise 5: asked",
      "Promise 6: weight", "Promise 7: find", "Promise 8: scan", "Promise 9: worked", "Promise 10: found",
      "Promise 11: sum", "Promise 12: sumOf", "Promise 13: pair", "Promise 14: changes", "Promise 15: learned",
      "Promise 16: drop", "Promise 17: share", "Promise 18: count",
      "Not promised");

  private static final Due DUE = new Due();

  public static void main(String[] args) {
    String document = Sentences.read();
    if (document.isEmpty()) {
      return;
    }
    DUE.is("the headings", String.join("\n", matches(document, "(?m)^## (.*)$")), String.join("\n", HEADINGS));
    String declared = String.join("\n", declaredFace());
    DUE.is("the face", String.join("\n", faceOf(document)), declared);
    DUE.is("the promises' heads", String.join("\n", headsOf(document)), declared);
    DUE.isTrue("the constant BAD", document.contains("public static final int BAD = " + NearFinder.BAD + ";"));
    DUE.end();
  }

  private static List<String> matches(String text, String pattern) {
    List<String> all = new ArrayList<>();
    Matcher matcher = Pattern.compile(pattern).matcher(text);
    while (matcher.find()) {
      all.add(matcher.group(1));
    }
    return all;
  }

  private static List<String> faceOf(String document) {
    return inOrder(matches(document, "(?m)^    public ([^=;]*\\)[^=;]*);$"));
  }

  private static List<String> headsOf(String document) {
    return inOrder(matches(document, "(?m)^`([^`]*)`: "));
  }

  /** Reflection tells methods in no order, and no names of parameters. */
  private static List<String> inOrder(List<String> heads) {
    List<String> all = new ArrayList<>();
    for (String head : heads) {
      all.add(head.replaceAll("(\\w+) \\w+(?=[,)])", "$1"));
    }
    Collections.sort(all);
    return all;
  }

  private static List<String> declaredFace() {
    List<String> all = new ArrayList<>(List.of("NearFinder()"));
    for (Method method : NearFinder.class.getDeclaredMethods()) {
      if (Modifier.isPublic(method.getModifiers())) {
        all.add(headOf(method));
      }
    }
    Collections.sort(all);
    return all;
  }

  private static String headOf(Method method) {
    String head = method.getReturnType() + " " + method.getName() + "(" + names(method.getParameterTypes()) + ")";
    return head + (method.getExceptionTypes().length > 0 ? " throws " + names(method.getExceptionTypes()) : "");
  }

  private static String names(Class<?>[] types) {
    return String.join(", ", Arrays.stream(types).map(Class::getSimpleName).toList());
  }
}
