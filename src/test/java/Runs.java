import java.util.IdentityHashMap;
import java.util.Map;
import java.util.function.LongSupplier;

/**
 * Runs of calls, written as in the issues: "react 3 -> 9" or "react 8 -> throws.IllegalArgumentException".
 * Where a call takes a statement, a text of Programs may stand for it: "build loop(pause) -> 2".
 */
final class Runs {
  static final String BAD = "throws.IllegalArgumentException";
  static final String STATE = "throws.IllegalStateException";
  static final String INDEX = "throws.IndexOutOfBoundsException";
  static final String REFUSED = "throws.UnsupportedOperationException";

  // The document promises nothing of later calls, so no test may lean on them.
  private static final int MOST_CALLS = 512;

  // Calls of every sort, to see whether two objects go on alike.
  private static final String[] GOING_ON = {"react 0", "react 5", "reset", "react 2", "react 7", "unknown",
      "make 1 0 0 0", "count 0", "build 0", "react 3", "over", "react 4", "over", "count 1", "count 2", "count 3"};

  private final Map<ReactiveWires, Programs> programs = new IdentityHashMap<>();
  private final Map<ReactiveWires, Integer> calls = new IdentityHashMap<>();
  private int wrong = 0;
  private int checked = 0;

  /** A run on a new object; several rows may stand in one text, divided by semicolons. */
  ReactiveWires run(String name, String... texts) {
    ReactiveWires wires = new ReactiveWires();
    more(name, wires, texts);
    return wires;
  }

  void more(String name, ReactiveWires wires, String... texts) {
    for (String text : texts) {
      for (String row : text.split(";")) {
        if (!row.isBlank()) {
          row(name, wires, row.trim());
        }
      }
    }
  }

  /**
   * Calls that must throw: each is made on a new object behind the rows of the beginning, must leave all
   * that can be seen as it was, and the object must go on like one on which it was not called.
   */
  void refused(String name, String beginning, String exception, String... refusedCalls) {
    for (String call : refusedCalls) {
      ReactiveWires wires = run(name, beginning);
      ReactiveWires twin = run(name, beginning);
      // What the call's texts make is made on both, so that only the call itself sets them apart.
      arguments(wires, call);
      arguments(twin, call);
      String before = seen(twin);
      due(name + ": " + call, answer(wires, call), exception);
      due(name + ": what is seen behind " + call, seen(wires), before);
      for (String next : GOING_ON) {
        due(name + ": " + next + " behind " + call, answer(wires, next), answer(twin, next));
      }
    }
  }

  /** All that the calls answer which change nothing. */
  String seen(ReactiveWires wires) {
    StringBuilder seen = new StringBuilder();
    for (String call : "count 0;count 1;count 2;count 3;unknown;over;registers".split(";")) {
      seen.append(call).append(": ").append(answer(wires, call)).append(", ");
    }
    int statements = Integer.parseInt(answer(wires, "count 0"));
    for (int p = 0; p < statements; p++) {
      seen.append(" can ").append(p).append(": ").append(answer(wires, "can " + p));
    }
    return seen.toString();
  }

  void due(String what, Object got, Object want) {
    checked++;
    if (!String.valueOf(got).equals(String.valueOf(want))) {
      wrong++;
      System.out.println(shortened(what) + " answered " + got + ", due is " + want);
    }
  }

  private static String shortened(String text) {
    return text.length() <= 160 ? text : text.substring(0, 160) + "..";
  }

  void end() {
    for (int made : calls.values()) {
      due("a run of at most 512 calls", made <= MOST_CALLS, true);
    }
    System.out.println(checked + " answers looked at, " + wrong + " wrong");
    if (wrong > 0) {
      System.exit(1);
    }
  }

  private void row(String name, ReactiveWires wires, String row) {
    String[] halves = row.split("->");
    if (halves.length != 2) {
      throw new IllegalStateException("not a row: " + row);
    }
    due(name + ": " + halves[0].trim(), answer(wires, halves[0].trim()), halves[1].trim());
  }

  String answer(ReactiveWires wires, String call) {
    int[] n = arguments(wires, call);
    calls.merge(wires, 1, Integer::sum);
    return switch (call.split(" ")[0]) {
      case "make" -> answerOf(() -> wires.make(n[0], n[1], n[2], n[3]));
      case "can" -> answerOf(() -> wires.can(n[0]));
      case "build" -> answerOf(() -> wires.build(n[0]));
      case "react" -> answerOf(() -> wires.react(n[0]));
      case "unknown" -> answerOf(wires::unknown);
      case "reset" -> answerOf(wires::reset);
      case "register" -> answerOf(() -> wires.register(n[0]) ? 1 : 0);
      case "registers" -> registers(wires);
      case "over" -> answerOf(() -> wires.over() ? 1 : 0);
      case "count" -> answerOf(() -> wires.count(n[0]));
      default -> throw new IllegalStateException("no such call: " + call);
    };
  }

  private int[] arguments(ReactiveWires wires, String call) {
    String[] words = call.split(" +");
    int[] n = new int[4];
    for (int i = 1; i < words.length; i++) {
      n[i - 1] = argument(wires, words[i]);
    }
    return n;
  }

  private int argument(ReactiveWires wires, String word) {
    if (Character.isLetter(word.charAt(0))) {
      int before = wires.count(0);
      int statement = programs.computeIfAbsent(wires, Programs::new).make(word);
      calls.merge(wires, 2 + wires.count(0) - before, Integer::sum);
      return statement;
    }
    return Integer.parseInt(word);
  }

  /** All registers, a digit each. */
  private String registers(ReactiveWires wires) {
    StringBuilder digits = new StringBuilder();
    String next = answer(wires, "register 0");
    for (int i = 1; i <= 60 && !next.startsWith("throws"); i++) {
      digits.append(next);
      next = answer(wires, "register " + i);
    }
    return digits.toString();
  }

  static String answerOf(LongSupplier call) {
    try {
      return String.valueOf(call.getAsLong());
    } catch (RuntimeException e) {
      return "throws." + e.getClass().getSimpleName();
    }
  }
}
