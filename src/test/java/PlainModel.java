import java.util.ArrayList;
import java.util.HashMap;
import java.util.List;
import java.util.Map;
import java.util.TreeSet;
import java.util.function.IntSupplier;

/**
 * The document once more, as plainly as it can be said and with nothing of the class in it: each wire
 * has an equation of its own, and all are worked out again and again. False is 0, unknown 1, true 2,
 * so that & is min, | is max, and not x is 2 - x.
 */
final class PlainModel {
  private static final int GO = 6;
  private static final int RES = 7;
  private static final int SUSP = 8;
  private static final int KILL = 9;
  private static final int SEL = 10;

  private record Statement(int kind, int number, int p, int q) { }

  private static final class Copy {
    final int kind;
    final int[] wire = new int[11];
    int register;
    Copy(int kind) {
      this.kind = kind;
    }
  }

  private static final class Built {
    final List<IntSupplier> equations = new ArrayList<>();
    final List<Copy> copies = new ArrayList<>();
    final Map<Integer, List<Integer>> emitters = new HashMap<>();
    final List<Boolean> registers = new ArrayList<>();
    int[] values = new int[0];
    int inputs = 0;
    int instants = 0;
    boolean over = false;
    int unknown = 0;
  }

  private final List<Statement> statements = new ArrayList<>();
  private Built built = null;
  private int notConstructive = 0;

  int make(int kind, int a, int b, int c) {
    if (kind < 0 || kind > 10) {
      throw new IllegalArgumentException();
    }
    Statement made = switch (kind) {
      case 0, 1 -> new Statement(kind, -1, -1, -1);
      case 2, 10 -> new Statement(kind, a, -1, -1);
      case 3, 4 -> new Statement(kind, -1, made(a), made(b));
      case 5, 9 -> new Statement(kind, -1, made(a), -1);
      case 6 -> new Statement(kind, a, made(b), made(c));
      default -> new Statement(kind, a, made(b), -1);
    };
    boolean takesSignal = kind == 2 || kind == 6 || kind == 7 || kind == 8;
    if (takesSignal && (a < 0 || a > 7) || kind == 10 && (a < 0 || a > 3)) {
      throw new IllegalArgumentException();
    }
    if ((kind == 2 || kind == 8) && a <= 2) {
      throw new IllegalArgumentException();
    }
    if (statements.size() == 60 || 1 + Math.max(depth(made.p), depth(made.q)) > 20) {
      throw new IllegalStateException();
    }
    statements.add(made);
    return statements.size() - 1;
  }

  private int made(int statement) {
    if (statement < 0 || statement >= statements.size()) {
      throw new IllegalArgumentException();
    }
    return statement;
  }

  private int depth(int statement) {
    if (statement < 0) {
      return 0;
    }
    Statement s = statements.get(statement);
    return 1 + Math.max(depth(s.p), s.q == s.p ? 0 : depth(s.q));
  }

  int can(int p) {
    look(p);
    int bits = 0;
    for (int code : codes(p, new HashMap<>())) {
      bits += 1 << code;
    }
    return bits;
  }

  private void look(int statement) {
    if (statement < 0 || statement >= statements.size()) {
      throw new IndexOutOfBoundsException();
    }
  }

  private TreeSet<Integer> codes(int statement, Map<Integer, TreeSet<Integer>> known) {
    if (statement < 0) {
      return new TreeSet<>();
    }
    if (known.containsKey(statement)) {
      return known.get(statement);
    }
    Statement s = statements.get(statement);
    TreeSet<Integer> p = codes(s.p, known);
    TreeSet<Integer> q = codes(s.q, known);
    TreeSet<Integer> all = new TreeSet<>(p);
    switch (s.kind) {
      case 0, 2 -> all.add(0);
      case 1 -> all.add(1);
      case 10 -> all.add(2 + s.number);
      case 3 -> {
        if (all.remove(0)) {
          all.addAll(q);
        }
      }
      case 4 -> {
        all.clear();
        for (int i : p) {
          for (int j : q) {
            all.add(i > j ? i : j);
          }
        }
      }
      case 5 -> all.remove(0);
      case 6 -> all.addAll(q);
      case 9 -> {
        all.clear();
        for (int i : p) {
          all.add(i == 2 ? 0 : i > 2 ? i - 1 : i);
        }
      }
      default -> { }
    }
    known.put(statement, all);
    return all;
  }

  int build(int root) {
    look(root);
    Built next = new Built();
    int[] meant = new int[8];
    for (int s = 0; s < 8; s++) {
      meant[s] = s;
      addSignal(next, s);
    }
    Copy top = copy(next, root, meant, 0);
    next.equations.set(top.wire[GO], () -> next.instants == 0 ? 2 : 0);
    next.equations.set(top.wire[RES], () -> next.instants == 0 ? 0 : 2);
    built = next;
    return next.registers.size();
  }

  private static int add(Built b, IntSupplier equation) {
    b.equations.add(equation);
    return b.equations.size() - 1;
  }

  private static int addSignal(Built b, int input) {
    int wire = b.equations.size();
    b.emitters.put(wire, new ArrayList<>());
    if (input >= 0 && input <= 2) {
      return add(b, () -> (b.inputs & 1 << input) != 0 ? 2 : 0);
    }
    return add(b, () -> {
      int value = 0;
      for (int go : b.emitters.get(wire)) {
        value = Math.max(value, b.values[go]);
      }
      return value;
    });
  }

  private Copy copy(Built b, int statement, int[] meant, int traps) {
    Statement s = statements.get(statement);
    boolean forever = s.kind == 5 && codes(s.p, new HashMap<>()).contains(0);
    if (forever || s.kind == 10 && traps < s.number + 1 || b.copies.size() == 300) {
      throw new UnsupportedOperationException();
    }
    Copy me = new Copy(s.kind);
    b.copies.add(me);
    for (int i = 0; i < 11; i++) {
      me.wire[i] = add(b, () -> 0);
    }
    if (s.kind == 1) {
      if (b.registers.size() == 60) {
        throw new UnsupportedOperationException();
      }
      me.register = b.registers.size();
      b.registers.add(false);
    }
    int[] within = meant.clone();
    if (s.kind == 8) {
      within[s.number] = addSignal(b, -1);
    }
    int inner = traps + (s.kind == 9 ? 1 : 0);
    Copy p = s.p < 0 ? null : copy(b, s.p, within, inner);
    Copy q = s.kind == 5 ? copy(b, s.p, within, inner) : s.q < 0 ? null : copy(b, s.q, within, inner);
    int signal = s.number >= 0 && s.kind != 10 ? within[s.number] : -1;
    passOn(b, me, p);
    passOn(b, me, q);
    if (p == null) {
      leaf(b, me, s, signal);
    } else if (q != null) {
      pair(b, me, p, q, signal);
    } else {
      single(b, me, p, signal);
    }
    return me;
  }

  private static void passOn(Built b, Copy me, Copy part) {
    if (part != null) {
      for (int w : new int[] {GO, RES, SUSP, KILL}) {
        set(b, part, w, () -> get(b, me, w));
      }
    }
  }

  private static int get(Built b, Copy copy, int wire) {
    return b.values[copy.wire[wire]];
  }

  private static void set(Built b, Copy copy, int wire, IntSupplier equation) {
    b.equations.set(copy.wire[wire], equation);
  }

  private static int and(int x, int y) {
    return Math.min(x, y);
  }

  private static int or(int x, int y) {
    return Math.max(x, y);
  }

  private static int not(int x) {
    return 2 - x;
  }

  private static void leaf(Built b, Copy me, Statement s, int signal) {
    switch (s.kind) {
      case 0 -> set(b, me, 0, () -> get(b, me, GO));
      case 1 -> {
        set(b, me, SEL, () -> b.registers.get(me.register) ? 2 : 0);
        set(b, me, 0, () -> and(b.registers.get(me.register) ? 2 : 0, get(b, me, RES)));
        set(b, me, 1, () -> get(b, me, GO));
      }
      case 2 -> {
        set(b, me, 0, () -> get(b, me, GO));
        b.emitters.get(signal).add(me.wire[GO]);
      }
      default -> set(b, me, 2 + s.number, () -> get(b, me, GO));
    }
  }

  private static void pair(Built b, Copy me, Copy p, Copy q, int signal) {
    for (int w : new int[] {0, 1, 2, 3, 4, 5, SEL}) {
      set(b, me, w, () -> or(get(b, p, w), get(b, q, w)));
    }
    switch (me.kind) {
      case 3 -> {
        set(b, q, GO, () -> get(b, p, 0));
        set(b, me, 0, () -> get(b, q, 0));
      }
      case 4 -> {
        for (int i = 0; i < 6; i++) {
          int code = i;
          set(b, me, i, () -> or(
              and(get(b, p, code), besides(b, me, q, code)),
              and(get(b, q, code), besides(b, me, p, code))));
        }
      }
      case 5 -> {
        set(b, p, GO, () -> or(get(b, me, GO), get(b, q, 0)));
        set(b, q, GO, () -> get(b, p, 0));
        set(b, me, 0, () -> 0);
      }
      default -> {
        set(b, p, GO, () -> and(get(b, me, GO), b.values[signal]));
        set(b, q, GO, () -> and(get(b, me, GO), not(b.values[signal])));
      }
    }
  }

  private static int besides(Built b, Copy parallel, Copy side, int code) {
    int value = not(or(get(b, parallel, GO), get(b, side, SEL)));
    for (int i = 0; i <= code; i++) {
      value = or(value, get(b, side, i));
    }
    return value;
  }

  private static void single(Built b, Copy me, Copy p, int signal) {
    for (int w : new int[] {0, 1, 2, 3, 4, 5, SEL}) {
      set(b, me, w, () -> get(b, p, w));
    }
    if (me.kind == 7) {
      IntSupplier w = () -> and(and(get(b, me, RES), get(b, p, SEL)), b.values[signal]);
      set(b, p, RES, () -> and(get(b, me, RES), not(b.values[signal])));
      set(b, p, SUSP, () -> or(get(b, me, SUSP), w.getAsInt()));
      set(b, me, 1, () -> or(get(b, p, 1), w.getAsInt()));
    }
    if (me.kind == 9) {
      set(b, me, 0, () -> or(get(b, p, 0), get(b, p, 2)));
      for (int i = 2; i < 5; i++) {
        int code = i;
        set(b, me, i, () -> get(b, p, code + 1));
      }
      set(b, me, 5, () -> 0);
      set(b, p, KILL, () -> or(get(b, me, KILL), get(b, p, 2)));
    }
  }

  int react(int inputs) {
    if (inputs < 0 || inputs > 7) {
      throw new IllegalArgumentException();
    }
    if (built == null) {
      throw new IllegalStateException();
    }
    Built b = built;
    if (b.over) {
      b.instants++;
      return inputs;
    }
    b.inputs = inputs;
    solve(b);
    for (int value : b.values) {
      if (value == 1) {
        notConstructive++;
        b.unknown = 0;
        for (int s = 0; s < 8; s++) {
          b.unknown += b.values[s] == 1 ? 1 : 0;
        }
        throw new IllegalStateException();
      }
    }
    for (Copy c : b.copies) {
      if (c.kind == 1) {
        int old = b.registers.get(c.register) ? 2 : 0;
        int now = and(or(get(b, c, GO), and(get(b, c, SUSP), old)), not(get(b, c, KILL)));
        b.registers.set(c.register, now == 2);
      }
    }
    b.over = get(b, b.copies.get(0), 0) == 2;
    b.instants++;
    int there = 0;
    for (int s = 0; s < 8; s++) {
      there += b.values[s] == 2 ? 1 << s : 0;
    }
    return there;
  }

  private static void solve(Built b) {
    b.values = new int[b.equations.size()];
    java.util.Arrays.fill(b.values, 1);
    boolean changed = true;
    while (changed) {
      int[] next = new int[b.values.length];
      for (int i = 0; i < next.length; i++) {
        next[i] = b.equations.get(i).getAsInt();
      }
      changed = !java.util.Arrays.equals(next, b.values);
      b.values = next;
    }
  }

  int unknown() {
    return built == null ? 0 : built.unknown;
  }

  int reset() {
    if (built == null) {
      throw new IllegalStateException();
    }
    int instants = built.instants;
    built.instants = 0;
    built.over = false;
    built.registers.replaceAll(r -> false);
    return instants;
  }

  boolean register(int i) {
    if (built == null || i < 0 || i >= built.registers.size()) {
      throw new IndexOutOfBoundsException();
    }
    return built.registers.get(i);
  }

  boolean over() {
    return built != null && built.over;
  }

  int count(int what) {
    return switch (what) {
      case 0 -> statements.size();
      case 1 -> built == null ? 0 : built.copies.size();
      case 2 -> built == null ? 0 : built.instants;
      case 3 -> notConstructive;
      default -> throw new IndexOutOfBoundsException();
    };
  }
}
