import java.util.ArrayList;
import java.util.HashMap;
import java.util.List;
import java.util.Map;

/**
 * Statements written as texts, such as "loop(seq(emit3,pause))", and made on one object. Equal texts are
 * made once, so that a text may stand in several; seq and par of more than two lean to the left.
 */
final class Programs {
  private static final List<String> KINDS = List.of(
      "nothing", "pause", "emit", "seq", "par", "loop", "if", "suspend", "local", "trap", "exit");

  private final ReactiveWires wires;
  private final Map<String, Integer> made = new HashMap<>();
  private String text;
  private int at;

  Programs(ReactiveWires wires) {
    this.wires = wires;
  }

  int make(String program) {
    text = program;
    at = 0;
    int statement = statement();
    if (at != text.length()) {
      throw new IllegalStateException("not a program: " + program);
    }
    return statement;
  }

  private int statement() {
    int begin = at;
    while (at < text.length() && Character.isLetter(text.charAt(at))) {
      at++;
    }
    int kind = KINDS.indexOf(text.substring(begin, at));
    if (kind < 0) {
      throw new IllegalStateException("no kind at " + begin + " of " + text);
    }
    List<Integer> arguments = new ArrayList<>();
    if (at < text.length() && Character.isDigit(text.charAt(at))) {
      arguments.add(text.charAt(at++) - '0');
    }
    if (at < text.length() && text.charAt(at) == '(') {
      do {
        at++;
        arguments.add(statement());
      } while (text.charAt(at) == ',');
      at++;
    }
    boolean several = KINDS.get(kind).equals("seq") || KINDS.get(kind).equals("par");
    while (several && arguments.size() > 2) {
      int pair = once(kind, List.of(arguments.remove(0), arguments.remove(0)));
      arguments.add(0, pair);
    }
    return once(kind, arguments);
  }

  private int once(int kind, List<Integer> arguments) {
    String key = kind + " " + arguments;
    if (!made.containsKey(key)) {
      int[] n = new int[3];
      for (int i = 0; i < arguments.size(); i++) {
        n[i] = arguments.get(i);
      }
      made.put(key, wires.make(kind, n[0], n[1], n[2]));
    }
    return made.get(key);
  }

  /** A statement of exactly so many copies, none of them a PAUSE. */
  static String copies(int n) {
    if (n == 1) {
      return "nothing";
    }
    return n % 2 == 0 ? "trap(" + copies(n - 1) + ")" : "par(" + copies(n / 2) + "," + copies(n / 2) + ")";
  }

  /** A statement of exactly so many PAUSES, all of which wait and end at once. */
  static String pauses(int n) {
    return n == 1 ? "pause" : "par(" + pauses(n - n / 2) + "," + pauses(n / 2) + ")";
  }

  /** The statement in so many TRAPS. */
  static String inTraps(int n, String statement) {
    return n == 0 ? statement : "trap(" + inTraps(n - 1, statement) + ")";
  }
}
