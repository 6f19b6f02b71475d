import java.util.Random;

/** Many runs of calls, always the same ones, each answer compared with the plain model's. */
final class ComparedRunsTest {
  private static final int RUNS = 600;
  // Kinds weighted so that programs wait, meet and leave often enough to be built.
  private static final int[] KINDS = {0, 1, 1, 1, 1, 2, 2, 2, 2, 3, 3, 3, 3, 4, 4, 4, 4, 5, 5, 6, 6, 6, 7, 7, 8, 8, 9, 9, 10};

  private final Runs runs = new Runs();
  private final int[] seen = new int[6];
  private ReactiveWires wires;
  private PlainModel model;
  private Random random;
  private String name;
  private int registers;

  public static void main(String[] args) {
    ComparedRunsTest test = new ComparedRunsTest();
    for (int run = 0; run < RUNS; run++) {
      test.oneRun(run);
    }
    test.lookAtSeen();
    test.runs.end();
  }

  private void oneRun(int run) {
    random = new Random(run);
    wires = new ReactiveWires();
    model = new PlainModel();
    int statements = 3 + random.nextInt(random.nextInt(8) == 0 ? 60 : 25);
    int calls = 0;
    name = "run " + run;
    registers = 0;
    while (calls < 500) {
      for (int i = 0; i < statements && calls < 400; i++, calls++) {
        make();
      }
      int root = random.nextInt(3) == 0 ? any() : Math.max(0, model.count(0) - 1 - random.nextInt(4));
      build(root);
      int instants = random.nextInt(12);
      for (int i = 0; i < instants; i++) {
        react();
        lookAround();
      }
      calls += 4 + 4 * instants;
      statements = random.nextInt(4);
    }
  }

  private int any() {
    int size = model.count(0);
    if (random.nextInt(60) == 0) {
      return random.nextBoolean() ? size : -1 - random.nextInt(2);
    }
    // Late ones more often, so that programs grow.
    return Math.max(random.nextInt(size + 1), random.nextInt(size + 1)) - (size > 0 && random.nextInt(40) > 0 ? 1 : 0);
  }

  private void make() {
    int kind = random.nextInt(80) == 0 ? random.nextInt(15) - 2 : KINDS[random.nextInt(KINDS.length)];
    boolean signal = kind == 2 || kind == 6 || kind == 7 || kind == 8;
    int a = signal ? signal(kind) : kind == 10 ? random.nextInt(40) / 15 + (random.nextInt(40) == 0 ? 2 : 0) : any();
    int b = any();
    int c = any();
    compare("make " + kind + " " + a + " " + b + " " + c,
        Runs.answerOf(() -> wires.make(kind, a, b, c)), Runs.answerOf(() -> model.make(kind, a, b, c)));
  }

  private int signal(int kind) {
    if (random.nextInt(60) == 0) {
      return random.nextInt(10) - 1;
    }
    return kind == 2 || kind == 8 ? 3 + random.nextInt(5) : random.nextInt(8);
  }

  private void build(int root) {
    String want = Runs.answerOf(() -> model.build(root));
    compare("build " + root, Runs.answerOf(() -> wires.build(root)), want);
    seen[want.equals("throws.UnsupportedOperationException") ? 0 : 1]++;
    registers = want.startsWith("throws") ? registers : Integer.parseInt(want);
    for (int p = 0; p < model.count(0); p++) {
      int statement = p;
      compare("can " + p, wires.can(statement), model.can(statement));
    }
    lookAround();
  }

  private void react() {
    int inputs = random.nextInt(50) == 0 ? random.nextInt(12) - 2 : random.nextInt(8);
    boolean over = model.over();
    String want = Runs.answerOf(() -> model.react(inputs));
    compare("react " + inputs, Runs.answerOf(() -> wires.react(inputs)), want);
    if (!over) {
      seen[want.startsWith("throws") ? 2 : 3]++;
    }
    if (model.unknown() > 1) {
      seen[4]++;
    }
    if (model.count(1) > 60) {
      seen[5]++;
    }
  }

  private void lookAround() {
    for (int what = -1; what <= 4; what++) {
      int w = what;
      compare("count " + what, Runs.answerOf(() -> wires.count(w)), Runs.answerOf(() -> model.count(w)));
    }
    compare("unknown", wires.unknown(), model.unknown());
    compare("over", wires.over(), model.over());
    for (int i = -1; i <= registers; i++) {
      int r = i;
      compare("register " + i, Runs.answerOf(() -> wires.register(r) ? 1 : 0),
          Runs.answerOf(() -> model.register(r) ? 1 : 0));
    }
    if (random.nextInt(15) == 0) {
      compare("reset", Runs.answerOf(wires::reset), Runs.answerOf(model::reset));
    }
  }

  private void compare(String call, Object got, Object want) {
    runs.due(name + ": " + call, got, want);
  }

  /** The comparison says nothing about what the runs never reach. */
  private void lookAtSeen() {
    String[] what = {"refused programs", "built programs", "instants not constructive or refused",
        "instants", "several signals unknown", "large programs"};
    for (int i = 0; i < seen.length; i++) {
      System.out.println(what[i] + ": " + seen[i]);
      runs.due("enough " + what[i], seen[i] > 200, true);
    }
  }
}
