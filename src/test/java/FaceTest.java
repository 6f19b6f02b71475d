import java.io.IOException;
import java.lang.reflect.Constructor;
import java.lang.reflect.Executable;
import java.lang.reflect.Field;
import java.lang.reflect.Member;
import java.lang.reflect.Method;
import java.lang.reflect.Modifier;
import java.nio.file.Files;
import java.nio.file.Path;
import java.util.ArrayList;
import java.util.Arrays;
import java.util.List;
import java.util.Set;
import java.util.TreeSet;
import java.util.regex.Matcher;
import java.util.regex.Pattern;

/**
 * "The public face" and no other member, and the rules of LANGUAGE.md that can be told from the class itself or from
 * the words of its text.
 */
final class FaceTest {
  private static final List<String> FACE = List.of(
      "public static final int NONE",
      "public ReactiveWires()",
      "public int make(int, int, int, int) throws IllegalArgumentException, IllegalStateException",
      "public int can(int) throws IndexOutOfBoundsException",
      "public int build(int) throws IndexOutOfBoundsException, UnsupportedOperationException",
      "public int react(int) throws IllegalArgumentException, IllegalStateException",
      "public int unknown()",
      "public int reset() throws IllegalStateException",
      "public boolean register(int) throws IndexOutOfBoundsException",
      "public boolean over()",
      "public int count(int) throws IndexOutOfBoundsException");

  // Rule 4: what of the library may stand before a dot, as far as it is a class.
  private static final Set<String> LIBRARY = Set.of("Integer", "Long", "Math", "System", "Arrays", "List");

  private static final Set<String> EXCEPTIONS = Set.of("IllegalStateException", "IllegalArgumentException",
      "IndexOutOfBoundsException", "ArithmeticException", "UnsupportedOperationException", "NoSuchElementException",
      "RuntimeException");

  private static final Set<Class<?>> CONSTANTS = Set.of(int.class, long.class, boolean.class, char.class, String.class,
      int[].class, long[].class, char[].class, byte[].class);

  private static final Runs RUNS = new Runs();

  public static void main(String[] args) throws IOException {
    String text = withoutCommentsAndTexts(Files.readString(Path.of("src/main/java/ReactiveWires.java")));
    face();
    noneIsMinusOne();
    classesInside();
    namesOfPrivateMethods();
    staticFields();
    parametersAndFields();
    wordsThatAreLeftOut(text);
    library(text);
    exceptionsThrown(text);
    lengthOfMethods(text);
    RUNS.end();
  }

  private static List<Class<?>> allClasses() {
    List<Class<?>> all = new ArrayList<>(Arrays.asList(ReactiveWires.class.getDeclaredClasses()));
    all.add(0, ReactiveWires.class);
    return all;
  }

  private static void face() {
    TreeSet<String> seen = new TreeSet<>();
    for (Method m : ReactiveWires.class.getDeclaredMethods()) {
      if (isSeen(m)) {
        seen.add(modifiers(m) + m.getReturnType().getSimpleName() + " " + signature(m, m.getName()));
      }
    }
    for (Constructor<?> c : ReactiveWires.class.getDeclaredConstructors()) {
      if (isSeen(c)) {
        seen.add(modifiers(c) + signature(c, "ReactiveWires"));
      }
    }
    for (Field f : ReactiveWires.class.getDeclaredFields()) {
      if (isSeen(f)) {
        seen.add(modifiers(f) + f.getType().getSimpleName() + " " + f.getName());
      }
    }
    RUNS.due("the face", seen, new TreeSet<>(FACE));
    RUNS.due("the class", Modifier.toString(ReactiveWires.class.getModifiers()), "public final");
    RUNS.due("the class's package", ReactiveWires.class.getPackageName(), "");
    RUNS.due("the class's ancestor", ReactiveWires.class.getSuperclass(), Object.class);
    RUNS.due("the class's interfaces", ReactiveWires.class.getInterfaces().length, 0);
  }

  private static boolean isSeen(Member member) {
    return !Modifier.isPrivate(member.getModifiers()) && !member.isSynthetic();
  }

  private static String modifiers(Member member) {
    String modifiers = Modifier.toString(member.getModifiers());
    return modifiers.isEmpty() ? "" : modifiers + " ";
  }

  private static String signature(Executable called, String name) {
    String thrown = names(called.getExceptionTypes());
    return name + "(" + names(called.getParameterTypes()) + ")" + (thrown.isEmpty() ? "" : " throws " + thrown);
  }

  private static String names(Class<?>[] types) {
    StringBuilder names = new StringBuilder();
    for (Class<?> type : types) {
      names.append(names.length() == 0 ? "" : ", ").append(type.getSimpleName());
    }
    return names.toString();
  }

  private static void noneIsMinusOne() {
    RUNS.due("NONE", ReactiveWires.NONE, -1);
  }

  private static void classesInside() {
    Class<?>[] inside = ReactiveWires.class.getDeclaredClasses();
    RUNS.due("rule 11: some twelve classes", inside.length <= 11, true);
    for (Class<?> own : inside) {
      int modifiers = own.getModifiers();
      RUNS.due("rule 1: " + own + " is static", Modifier.isStatic(modifiers), true);
      RUNS.due("rule 1: " + own + " is seen outside", Modifier.isPublic(modifiers) || Modifier.isProtected(modifiers), false);
    }
  }

  private static void namesOfPrivateMethods() {
    TreeSet<String> names = new TreeSet<>();
    for (Method m : ReactiveWires.class.getDeclaredMethods()) {
      if (isSeen(m)) {
        names.add(m.getName());
      }
    }
    for (Class<?> own : allClasses()) {
      for (Method m : own.getDeclaredMethods()) {
        boolean inTheFace = own == ReactiveWires.class && isSeen(m);
        RUNS.due("rule 1: " + m + " bears the name of a public one", !inTheFace && names.contains(m.getName()), false);
      }
    }
  }

  private static void staticFields() {
    for (Class<?> own : allClasses()) {
      for (Field f : own.getDeclaredFields()) {
        if (Modifier.isStatic(f.getModifiers()) && !f.isSynthetic()) {
          RUNS.due("rule 5: " + f + " is final", Modifier.isFinal(f.getModifiers()), true);
          RUNS.due("rule 5: " + f + " is a constant", CONSTANTS.contains(f.getType()), true);
        }
      }
    }
  }

  private static void parametersAndFields() {
    for (Class<?> own : allClasses()) {
      int fields = 0;
      for (Field f : own.getDeclaredFields()) {
        fields += Modifier.isStatic(f.getModifiers()) ? 0 : 1;
      }
      RUNS.due("rule 11: fields of " + own, fields <= 20, true);
      for (Method m : own.getDeclaredMethods()) {
        RUNS.due("rule 11: parameters of " + m, m.getParameterCount() <= 7, true);
      }
    }
  }

  private static void wordsThatAreLeftOut(String text) {
    String[] words = {"package", "import", "finally", "synchronized", "assert", "volatile", "native", "strictfp",
        "hashCode", "toString", "getMessage", "getClass", "Thread", "Random", "Object", "var"};
    for (String word : words) {
      RUNS.due("the word " + word, Pattern.compile("\\b" + word + "\\b").matcher(text).find(), false);
    }
    for (String sign : new String[] {"->", "::", "@"}) {
      RUNS.due("the sign " + sign, text.contains(sign), false);
    }
    RUNS.due("rule 5: a static initialiser", Pattern.compile("\\bstatic\\s*\\{").matcher(text).find(), false);
  }

  private static void library(String text) {
    Matcher before = Pattern.compile("\\b([A-Z][a-z]\\w*)\\s*\\.").matcher(text);
    while (before.find()) {
      RUNS.due("rule 4: " + before.group(1), LIBRARY.contains(before.group(1)), true);
    }
    Matcher exact = Pattern.compile("\\.\\s*\\w*Exact\\b").matcher(text);
    RUNS.due("rule 4: a name that ends in Exact", exact.find(), false);
  }

  private static void exceptionsThrown(String text) {
    Matcher thrown = Pattern.compile("\\bthrow\\b([^;]*);").matcher(text);
    while (thrown.find()) {
      String made = thrown.group(1).trim();
      Matcher form = Pattern.compile("new (\\w+)\\((\"\")?\\)").matcher(made);
      RUNS.due("rule 6: throw " + made, form.matches() && EXCEPTIONS.contains(form.group(1)), true);
    }
  }

  /** A brace that closes straight inside a class belongs to the nearest line above that stands as far in. */
  private static void lengthOfMethods(String text) {
    String[] lines = text.split("\n", -1);
    int methods = 0;
    for (String indent : new String[] {"    ", "        "}) {
      int begin = 0;
      for (int i = 0; i < lines.length; i++) {
        boolean closes = lines[i].equals(indent + "}");
        if (closes && !lines[begin].contains(" class ")) {
          methods++;
          RUNS.due("rule 11: lines of " + lines[begin].trim(), i - begin < 60, true);
        }
        begin = !closes && lines[i].matches(indent + "\\S.*") ? i : begin;
      }
    }
    RUNS.due("methods whose lines were counted", methods >= FACE.size() - 1, true);
  }

  /** The text with an empty text for each one written out, and without comments. */
  private static String withoutCommentsAndTexts(String text) {
    Matcher parts = Pattern.compile("\"(?:[^\"\\\\\n]|\\\\.)*\"|/\\*(?s:.*?)\\*/|//[^\n]*").matcher(text);
    return parts.replaceAll(part -> part.group().startsWith("\"") ? "\"\"" : "");
  }
}
