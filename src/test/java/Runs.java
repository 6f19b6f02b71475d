import java.util.function.LongSupplier;

/** Runs of calls, written as in the issues: "react 3 -> 9" or "react 8 -> throws.IllegalArgumentException". */
final class Runs {
  private int wrong = 0;
  private int checked = 0;

  /** A run on a new object; several rows may stand in one text, divided by semicolons. */
  ReactiveWires run(String name, String... texts) {
    ReactiveWires wires = new ReactiveWires();
    more(name, wires, texts);
    return wires;
  }

  void more(String name, ReactiveWires wires, String... texts) {
    for (String text : texts) {
      for (String row : text.split(";")) {
        if (!row.isBlank()) {
          row(name, wires, row.trim());
        }
      }
    }
  }

  void due(String what, Object got, Object want) {
    checked++;
    if (!String.valueOf(got).equals(String.valueOf(want))) {
      wrong++;
      System.out.println(what + " answered " + got + ", due is " + want);
    }
  }

  void end() {
    System.out.println(checked + " answers looked at, " + wrong + " wrong");
    if (wrong > 0) {
      System.exit(1);
    }
  }

  private void row(String name, ReactiveWires wires, String row) {
    String[] halves = row.split("->");
    if (halves.length != 2) {
      throw new IllegalStateException("not a row: " + row);
    }
    due(name + ": " + halves[0].trim(), answer(wires, halves[0].trim()), halves[1].trim());
  }

  private static String answer(ReactiveWires wires, String call) {
    String[] words = call.split(" +");
    int[] n = new int[4];
    for (int i = 1; i < words.length; i++) {
      n[i - 1] = Integer.parseInt(words[i]);
    }
    return switch (words[0]) {
      case "make" -> answerOf(() -> wires.make(n[0], n[1], n[2], n[3]));
      case "can" -> answerOf(() -> wires.can(n[0]));
      case "build" -> answerOf(() -> wires.build(n[0]));
      case "react" -> answerOf(() -> wires.react(n[0]));
      case "unknown" -> answerOf(wires::unknown);
      case "reset" -> answerOf(wires::reset);
      case "register" -> answerOf(() -> wires.register(n[0]) ? 1 : 0);
      case "over" -> answerOf(() -> wires.over() ? 1 : 0);
      case "count" -> answerOf(() -> wires.count(n[0]));
      default -> throw new IllegalStateException("no such call: " + call);
    };
  }

  static String answerOf(LongSupplier call) {
    try {
      return String.valueOf(call.getAsLong());
    } catch (RuntimeException e) {
      return "throws." + e.getClass().getSimpleName();
    }
  }
}
