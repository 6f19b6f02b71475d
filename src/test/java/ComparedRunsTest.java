import java.util.Random;
import java.util.function.LongSupplier;

/** Many runs of calls, always the same ones, each answer compared with the plain model's. */
final class ComparedRunsTest {
  private static final int RUNS = 4000;
  // The document promises nothing of later calls.
  private static final int MOST_CALLS = 512;
  // Kinds weighted so that programs wait, meet and leave often enough to be built.
  private static final int[] KINDS = {0, 1, 1, 1, 1, 2, 2, 2, 2, 3, 3, 3, 3, 4, 4, 4, 4, 5, 5, 6, 6, 6, 7, 7, 8, 8, 9, 9, 10};

  private final Runs runs = new Runs();
  private final int[] seen = new int[6];
  private ReactiveWires wires;
  private PlainModel model;
  private Random random;
  private String name;
  private int registers;
  private int calls;
  private boolean growing;

  public static void main(String[] args) {
    ComparedRunsTest test = new ComparedRunsTest();
    for (int run = 0; run < RUNS; run++) {
      test.oneRun(run);
    }
    test.lookAtSeen();
    test.runs.end();
  }

  private void oneRun(int run) {
    random = new Random(run);
    wires = new ReactiveWires();
    model = new PlainModel();
    int statements = 3 + random.nextInt(random.nextInt(8) == 0 ? 60 : 25);
    name = "run " + run;
    registers = 0;
    calls = 0;
    growing = run % 4 == 0;
    while (calls < MOST_CALLS) {
      for (int i = 0; i < statements; i++) {
        make();
      }
      build(random.nextInt(3) == 0 ? any() : Math.max(0, model.count(0) - 1 - random.nextInt(4)));
      int instants = random.nextInt(12);
      for (int i = 0; i < instants; i++) {
        react();
        lookAround();
      }
      statements = random.nextInt(4);
    }
  }

  private int any() {
    int size = model.count(0);
    if (random.nextInt(60) == 0) {
      return random.nextBoolean() ? size : -1 - random.nextInt(2);
    }
    if (growing && size > 0) {
      return Math.max(0, size - 1 - random.nextInt(5));
    }
    // Late ones more often, so that programs grow.
    return Math.max(random.nextInt(size + 1), random.nextInt(size + 1)) - (size > 0 && random.nextInt(40) > 0 ? 1 : 0);
  }

  private void make() {
    int kind = random.nextInt(80) == 0 ? random.nextInt(15) - 2 : KINDS[random.nextInt(KINDS.length)];
    boolean signal = kind == 2 || kind == 6 || kind == 7 || kind == 8;
    int a = signal ? signal(kind) : kind == 10 ? random.nextInt(40) / 15 + (random.nextInt(40) == 0 ? 2 : 0) : any();
    int b = any();
    int c = any();
    compare("make " + kind + " " + a + " " + b + " " + c,
        () -> wires.make(kind, a, b, c), () -> model.make(kind, a, b, c));
  }

  private int signal(int kind) {
    if (random.nextInt(60) == 0) {
      return random.nextInt(10) - 1;
    }
    return kind == 2 || kind == 8 ? 3 + random.nextInt(5) : random.nextInt(8);
  }

  private void build(int root) {
    String due = compare("build " + root, () -> wires.build(root), () -> model.build(root));
    if (due.startsWith("throws")) {
      seen[0]++;
    } else if (!due.isEmpty()) {
      seen[1]++;
      registers = Integer.parseInt(due);
    }
    // Which statements are asked for, so that calls are left for the instants.
    for (int p = random.nextInt(8); p < model.count(0); p += 8) {
      int statement = p;
      compare("can " + p, () -> wires.can(statement), () -> model.can(statement));
    }
    lookAround();
  }

  private void react() {
    int inputs = random.nextInt(50) == 0 ? random.nextInt(12) - 2 : random.nextInt(8);
    boolean over = model.over();
    String due = compare("react " + inputs, () -> wires.react(inputs), () -> model.react(inputs));
    if (!over && !due.isEmpty()) {
      seen[due.startsWith("throws") ? 2 : 3]++;
      seen[4] += model.unknown() > 1 ? 1 : 0;
      seen[5] += model.count(1) > 60 ? 1 : 0;
    }
  }

  private void lookAround() {
    int what = random.nextInt(6) - 1;
    compare("count " + what, () -> wires.count(what), () -> model.count(what));
    compare("unknown", wires::unknown, model::unknown);
    compare("over", () -> wires.over() ? 1 : 0, () -> model.over() ? 1 : 0);
    // All of few registers, some of many.
    for (int i = -1; i <= registers; i += 1 + random.nextInt(1 + registers / 4)) {
      int register = i;
      compare("register " + i, () -> wires.register(register) ? 1 : 0, () -> model.register(register) ? 1 : 0);
    }
    if (random.nextInt(15) == 0) {
      compare("reset", wires::reset, model::reset);
    }
  }

  /** The answer that was due, or an empty text when the run is at its end and nothing was called. */
  private String compare(String call, LongSupplier got, LongSupplier want) {
    if (calls == MOST_CALLS) {
      return "";
    }
    calls++;
    String due = Runs.answerOf(want);
    runs.due(name + ": " + call, Runs.answerOf(got), due);
    return due;
  }

  /** The comparison says nothing about what the runs never reach. */
  private void lookAtSeen() {
    String[] what = {"refused programs", "built programs", "instants not constructive or refused",
        "instants", "several signals unknown", "large programs"};
    for (int i = 0; i < seen.length; i++) {
      System.out.println(what[i] + ": " + seen[i]);
      runs.due("enough " + what[i], seen[i] > 200, true);
    }
  }
}
