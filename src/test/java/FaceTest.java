import java.lang.reflect.Constructor;
import java.lang.reflect.Field;
import java.lang.reflect.Method;
import java.lang.reflect.Modifier;
import java.util.ArrayList;
import java.util.Arrays;
import java.util.List;

/** The document's public face, and rules 1, 2, 5 and 11 of LANGUAGE.md as far as the compiled class shows them. */
final class FaceTest {
  private static final Due DUE = new Due();
  private static final List<String> FACE = List.of(
      "int entry(int)",
      "boolean letter(int,int,int)",
      "boolean ask(int,int)",
      "boolean asked(int)",
      "int weight(int,int)",
      "int find(int,int)",
      "int scan(int,int)",
      "int worked()",
      "int found(int)",
      "int sum(int)",
      "int sumOf(int)",
      "int pair(int,int)",
      "int changes(int,int,int)",
      "int learned(int,int)",
      "int drop(int,boolean)",
      "long share(int,int) throws java.lang.ArithmeticException",
      "int count(int)");

  public static void main(String[] args) {
    DUE.is("the class's modifiers", NearFinder.class.getModifiers(), Modifier.PUBLIC | Modifier.FINAL);
    methodsOfTheFace();
    constructorsAndFields();
    classesInside();
    DUE.end();
  }

  private static String describe(Method method) {
    StringBuilder text = new StringBuilder();
    text.append(method.getReturnType().getName()).append(' ').append(method.getName()).append('(');
    text.append(String.join(",", names(method.getParameterTypes()))).append(')');
    if (method.getExceptionTypes().length > 0) {
      text.append(" throws ").append(String.join(",", names(method.getExceptionTypes())));
    }
    return text.toString();
  }

  private static List<String> names(Class<?>[] types) {
    List<String> names = new ArrayList<>();
    for (Class<?> type : types) {
      names.add(type.getName());
    }
    return names;
  }

  private static void methodsOfTheFace() {
    List<String> open = new ArrayList<>();
    for (Method method : NearFinder.class.getDeclaredMethods()) {
      if (!Modifier.isPrivate(method.getModifiers())) {
        DUE.is(method.getName() + ": modifiers", method.getModifiers(), Modifier.PUBLIC);
        open.add(describe(method));
      }
    }
    for (String method : FACE) {
      DUE.isTrue(method + " is there", open.contains(method));
    }
    for (String method : open) {
      DUE.isTrue(method + " is of the face", FACE.contains(method));
    }
  }

  private static void constructorsAndFields() {
    Constructor<?>[] constructors = NearFinder.class.getDeclaredConstructors();
    DUE.is("constructors", constructors.length, 1);
    DUE.is("the constructor's modifiers", constructors[0].getModifiers(), Modifier.PUBLIC);
    DUE.is("the constructor's parameters", constructors[0].getParameterCount(), 0);
    for (Field field : NearFinder.class.getDeclaredFields()) {
      boolean isOpen = !Modifier.isPrivate(field.getModifiers());
      DUE.is(field.getName() + " is open", isOpen ? 1 : 0, field.getName().equals("BAD") ? 1 : 0);
    }
  }

  private static void classesInside() {
    List<Class<?>> all = new ArrayList<>(Arrays.asList(NearFinder.class.getDeclaredClasses()));
    DUE.isTrue("at most some twelve classes", all.size() <= 12);
    for (Class<?> inside : all) {
      DUE.isTrue(inside + " is static", Modifier.isStatic(inside.getModifiers()));
      DUE.isFalse(inside + " is public", Modifier.isPublic(inside.getModifiers()));
      DUE.isFalse(inside + " is protected", Modifier.isProtected(inside.getModifiers()));
    }
    all.add(NearFinder.class);
    for (Class<?> one : all) {
      staticFieldsAreFinal(one);
      methodsOf(one);
    }
  }

  private static void staticFieldsAreFinal(Class<?> one) {
    int held = 0;
    for (Field field : one.getDeclaredFields()) {
      if (Modifier.isStatic(field.getModifiers())) {
        DUE.isTrue(field + " is final", Modifier.isFinal(field.getModifiers()));
      } else {
        held++;
      }
    }
    DUE.isTrue(one + " has at most twenty fields", held <= 20);
  }

  private static void methodsOf(Class<?> one) {
    for (Method method : one.getDeclaredMethods()) {
      DUE.isTrue(method + " takes at most seven", method.getParameterCount() <= 7);
      DUE.isFalse(method + " is a lambda or an accessor", method.isSynthetic());
      boolean bearsNameOfFace = false;
      for (String face : FACE) {
        bearsNameOfFace |= face.contains(" " + method.getName() + "(");
      }
      boolean isOfFace = one == NearFinder.class && Modifier.isPublic(method.getModifiers());
      DUE.is(method + " bears a name of the face", bearsNameOfFace ? 1 : 0, isOfFace ? 1 : 0);
    }
  }
}
