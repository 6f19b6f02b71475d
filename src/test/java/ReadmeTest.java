import java.io.IOException;
import java.lang.reflect.Method;
import java.nio.file.Files;
import java.nio.file.Path;
import java.util.ArrayList;
import java.util.HashMap;
import java.util.List;
import java.util.Map;
import java.util.regex.Matcher;
import java.util.regex.Pattern;

/** What README.md says of the class: its example, row by row, and the table of calls with their exceptions. */
final class ReadmeTest {
  private static final Pattern ROW = Pattern.compile(
      "(?:int (\\w+) = )?wires\\.(\\w+)\\(([^)]*)\\); *// (true|false|-?\\d+|throws \\w+): .*");

  private static final Runs RUNS = new Runs();

  public static void main(String[] args) throws IOException {
    String readme = Files.readString(Path.of("README.md"));
    List<String> calls = example(readme);
    for (Method m : ReactiveWires.class.getMethods()) {
      if (m.getDeclaringClass() == ReactiveWires.class) {
        table(readme, m);
        RUNS.due("the example has " + m.getName(), calls.contains(m.getName()), true);
      }
    }
    RUNS.due("how to run the tests", readme.contains("\n.ci/run\n"), true);
    RUNS.end();
  }

  /** Looks at the example's answers; the names of the calls in it. */
  private static List<String> example(String readme) {
    int begin = readme.indexOf("```java\n") + 8;
    String[] rows = readme.substring(begin, readme.indexOf("```", begin)).split("\n");
    RUNS.due("the example's first row", rows[0], "ReactiveWires wires = new ReactiveWires();");
    ReactiveWires wires = new ReactiveWires();
    Map<String, String> names = new HashMap<>();
    List<String> calls = new ArrayList<>();
    for (int i = 1; i < rows.length; i++) {
      Matcher row = ROW.matcher(rows[i]);
      RUNS.due("the form of " + rows[i], row.matches(), true);
      if (row.matches()) {
        StringBuilder call = new StringBuilder(row.group(2));
        for (String argument : row.group(3).split(", *")) {
          call.append(argument.isEmpty() ? "" : " " + names.getOrDefault(argument, argument));
        }
        String answer = RUNS.answer(wires, call.toString());
        RUNS.due("README.md: " + rows[i], answer, due(row.group(4)));
        names.put(String.valueOf(row.group(1)), answer);
        calls.add(row.group(2));
      }
    }
    return calls;
  }

  private static String due(String told) {
    return switch (told) {
      case "true" -> "1";
      case "false" -> "0";
      default -> told.replace("throws ", "throws.");
    };
  }

  private static void table(String readme, Method m) {
    Matcher row = Pattern.compile("\n\\| `" + m.getName() + "\\(([^)]*)\\)` \\| ([^|]+) \\|([^|]*)\\|").matcher(readme);
    boolean found = row.find();
    RUNS.due("the table has " + m.getName(), found, true);
    if (!found) {
      return;
    }
    int parameters = row.group(1).isEmpty() ? 0 : row.group(1).split(",").length;
    RUNS.due("the parameters of " + m.getName(), parameters, m.getParameterCount());
    List<String> told = new ArrayList<>();
    Matcher exception = Pattern.compile("`(\\w+Exception)`").matcher(row.group(3));
    while (exception.find()) {
      told.add(exception.group(1));
    }
    List<String> thrown = new ArrayList<>();
    for (Class<?> type : m.getExceptionTypes()) {
      thrown.add(type.getSimpleName());
    }
    RUNS.due("the exceptions of " + m.getName(), told, thrown);
  }
}
