/** Each promise of the document by itself: ordinary calls, the edges it names, and wrong calls. */
final class PromisesTest {
  private static final String BAD = Runs.BAD;
  private static final String STATE = Runs.STATE;
  private static final String INDEX = Runs.INDEX;
  private static final String REFUSED = Runs.REFUSED;

  // 0 NOTHING, 1 PAUSE, 2 EMIT 3, 3 EMIT 4: most programs below begin with these.
  private static final String BASE =
      "make 0 0 0 0 -> 0; make 1 0 0 0 -> 1; make 2 3 0 0 -> 2; make 2 4 0 0 -> 3";

  private static final Runs RUNS = new Runs();

  public static void main(String[] args) {
    newObject();
    makeTakesArguments();
    makeRefuses();
    makeLimits();
    can();
    build();
    buildRefuses();
    buildLimits();
    refusedBuildChangesNothing();
    reactRefuses();
    reactSequenceAndParallel();
    reactLoop();
    reactPresent();
    reactSuspend();
    reactLocal();
    reactTrap();
    reactNotConstructive();
    unknown();
    reset();
    register();
    over();
    count();
    longUse();
    RUNS.end();
  }

  private static void newObject() {
    RUNS.run("1 new", "count 0 -> 0; count 1 -> 0; count 2 -> 0; count 3 -> 0; unknown -> 0; over -> 0",
        "can 0 -> " + INDEX, "build 0 -> " + INDEX, "register 0 -> " + INDEX,
        "react 0 -> " + STATE, "reset -> " + STATE, "count 3 -> 0; unknown -> 0");
    RUNS.run("1 objects apart", "make 0 0 0 0 -> 0");
    RUNS.run("1 objects apart", "count 0 -> 0");
  }

  private static void makeTakesArguments() {
    RUNS.run("2 what is not needed",
        "make 0 -9 99 2147483647 -> 0; make 1 -2147483648 99 -1 -> 1; make 2 7 -1 60 -> 2",
        "make 3 0 1 -1 -> 3; make 4 1 2 77 -> 4; make 5 1 -1 -1 -> 5; make 6 0 1 2 -> 6",
        "make 7 0 1 -1 -> 7; make 8 3 1 -1 -> 8; make 9 1 -1 -1 -> 9; make 10 3 -1 -1 -> 10; count 0 -> 11");
    RUNS.run("2 p and q where they stand", BASE,
        "make 3 1 2 3 -> 4; build 4 -> 1; react 0 -> 0; react 0 -> 8",
        "make 4 2 3 0 -> 5; build 5 -> 0; react 0 -> 24",
        "make 6 1 2 3 -> 6; build 6 -> 0; react 2 -> 10; reset -> 1; react 5 -> 21",
        "make 7 1 2 3 -> 7; build 7 -> 0; react 0 -> 8",
        "make 8 5 3 2 -> 8; build 8 -> 0; react 0 -> 16",
        "make 9 2 3 3 -> 9; build 9 -> 0; react 0 -> 8");
    RUNS.run("2 every signal", BASE,
        "make 2 5 0 0 -> 4; make 2 6 0 0 -> 5; make 2 7 0 0 -> 6",
        "make 6 0 0 0 -> 7; make 6 7 0 0 -> 8; make 7 0 0 0 -> 9; make 7 7 0 0 -> 10",
        "make 8 3 0 0 -> 11; make 8 7 0 0 -> 12; make 10 0 0 0 -> 13; make 10 3 0 0 -> 14");
    RUNS.run("2 one in several", BASE, "make 4 2 2 0 -> 4; make 3 4 2 0 -> 5; build 5 -> 0; count 1 -> 5; react 0 -> 8");
  }

  private static void makeRefuses() {
    ReactiveWires wires = RUNS.run("2 kinds", BASE);
    for (int kind : new int[] {-1, 11, 12, Integer.MIN_VALUE, Integer.MAX_VALUE}) {
      RUNS.more("2 kinds", wires, "make " + kind + " 0 0 0 -> " + BAD);
    }
    for (int s : new int[] {-1, 0, 1, 2, 8, Integer.MAX_VALUE, Integer.MIN_VALUE}) {
      RUNS.more("2 not an input", wires, "make 2 " + s + " 0 0 -> " + BAD, "make 8 " + s + " 0 0 -> " + BAD);
    }
    for (int s : new int[] {-1, 8, Integer.MAX_VALUE, Integer.MIN_VALUE}) {
      RUNS.more("2 signals", wires, "make 6 " + s + " 0 0 -> " + BAD, "make 7 " + s + " 0 0 -> " + BAD);
    }
    for (int n : new int[] {-1, 4, Integer.MAX_VALUE, Integer.MIN_VALUE}) {
      RUNS.more("2 n", wires, "make 10 " + n + " 0 0 -> " + BAD);
    }
    for (int p : new int[] {-1, 4, 59, 60, Integer.MAX_VALUE, Integer.MIN_VALUE}) {
      RUNS.more("2 parts", wires,
          "make 3 " + p + " 0 0 -> " + BAD, "make 3 0 " + p + " 0 -> " + BAD,
          "make 4 " + p + " 0 0 -> " + BAD, "make 4 0 " + p + " 0 -> " + BAD,
          "make 5 " + p + " 0 0 -> " + BAD, "make 9 " + p + " 0 0 -> " + BAD,
          "make 6 0 " + p + " 0 -> " + BAD, "make 6 0 0 " + p + " -> " + BAD,
          "make 7 0 " + p + " 0 -> " + BAD, "make 8 3 " + p + " 0 -> " + BAD);
    }
    RUNS.more("2 nothing made", wires, "count 0 -> 4; can 4 -> " + INDEX, "make 0 0 0 0 -> 4");
  }

  private static void makeLimits() {
    ReactiveWires deep = RUNS.run("2 deep", BASE);
    for (int made = 4; made < 23; made++) {
      RUNS.more("2 deep", deep, "make 9 " + (made == 4 ? 1 : made - 1) + " 0 0 -> " + made);
    }
    RUNS.more("2 deeper than 20", deep,
        "make 9 22 0 0 -> " + STATE, "make 3 0 22 0 -> " + STATE, "make 4 22 0 0 -> " + STATE,
        "make 6 0 22 0 -> " + STATE, "make 6 0 0 22 -> " + STATE, "make 7 0 22 0 -> " + STATE,
        "make 8 3 22 0 -> " + STATE, "make 5 22 0 0 -> " + STATE,
        "count 0 -> 23; can 22 -> 2; build 22 -> 1; count 1 -> 20; make 9 21 0 0 -> 23");
    RUNS.more("2 wrong and too deep", deep, "make 8 0 22 0 -> " + BAD, "make 3 22 24 0 -> " + BAD);

    ReactiveWires full = new ReactiveWires();
    for (int made = 0; made < 60; made++) {
      RUNS.more("2 many", full, "make 1 0 0 0 -> " + made);
    }
    RUNS.more("2 more than 60", full,
        "make 1 0 0 0 -> " + STATE, "make 3 0 59 0 -> " + STATE, "make 10 0 0 0 -> " + STATE,
        "make 11 0 0 0 -> " + BAD, "make 5 60 0 0 -> " + BAD, "make 2 1 0 0 -> " + BAD,
        "count 0 -> 60; can 59 -> 2; can 60 -> " + INDEX, "build 59 -> 1");
  }

  private static void can() {
    RUNS.run("3 leaves", BASE, "can 0 -> 1; can 1 -> 2; can 2 -> 1",
        "make 10 0 0 0 -> 4; make 10 1 0 0 -> 5; make 10 2 0 0 -> 6; make 10 3 0 0 -> 7",
        "can 4 -> 4; can 5 -> 8; can 6 -> 16; can 7 -> 32");
    // 4 can 0 or 1, 5 can 0 or leave the innermost, 6 can wait or leave the innermost.
    String mixed = "make 6 0 0 1 -> 4; make 10 0 0 0 -> 5; make 6 1 0 5 -> 6; make 6 1 1 5 -> 7";
    RUNS.run("3 sequence", BASE, mixed, "can 4 -> 3; can 6 -> 5; can 7 -> 6",
        "make 3 4 6 0 -> 8; can 8 -> 7; make 3 1 6 0 -> 9; can 9 -> 2; make 3 4 1 0 -> 10; can 10 -> 2",
        "make 3 6 1 0 -> 11; can 11 -> 6; make 3 0 0 0 -> 12; can 12 -> 1");
    RUNS.run("3 parallel", BASE, mixed, "make 4 4 6 0 -> 8; can 8 -> 7; make 4 0 1 0 -> 9; can 9 -> 2",
        "make 10 3 0 0 -> 10; make 4 10 7 0 -> 11; can 11 -> 32; make 4 6 1 0 -> 12; can 12 -> 6",
        "make 4 1 7 0 -> 13; can 13 -> 6; make 4 0 0 0 -> 14; can 14 -> 1; make 4 7 6 0 -> 15; can 15 -> 6");
    RUNS.run("3 loop", BASE, mixed, "make 5 4 0 0 -> 8; can 8 -> 2; make 5 0 0 0 -> 9; can 9 -> 0",
        "make 5 6 0 0 -> 10; can 10 -> 4; make 3 9 1 0 -> 11; can 11 -> 0; make 4 9 1 0 -> 12; can 12 -> 0",
        "make 4 1 9 0 -> 13; can 13 -> 0; make 6 0 9 1 -> 14; can 14 -> 2; make 9 9 0 0 -> 15; can 15 -> 0");
    RUNS.run("3 suspend, local", BASE, mixed, "make 7 0 6 0 -> 8; can 8 -> 5; make 8 3 7 0 -> 9; can 9 -> 6");
    RUNS.run("3 trap", BASE, mixed, "make 9 6 0 0 -> 8; can 8 -> 1; make 9 7 0 0 -> 9; can 9 -> 3",
        "make 10 1 0 0 -> 10; make 9 10 0 0 -> 11; can 11 -> 4; make 10 3 0 0 -> 12; make 9 12 0 0 -> 13; can 13 -> 16",
        "make 9 13 0 0 -> 14; can 14 -> 8; make 9 14 0 0 -> 15; can 15 -> 4; make 9 15 0 0 -> 16; can 16 -> 1",
        "make 6 0 12 1 -> 17; make 9 17 0 0 -> 18; can 18 -> 18; make 9 1 0 0 -> 19; can 19 -> 2");
    RUNS.run("3 wrong", BASE, "can 4 -> " + INDEX, "can -1 -> " + INDEX, "can 60 -> " + INDEX,
        "can 2147483647 -> " + INDEX, "can -2147483648 -> " + INDEX, "can 3 -> 1");
  }

  private static void build() {
    RUNS.run("4 registers in the copies' order", BASE,
        "make 3 1 2 0 -> 4; make 4 4 1 0 -> 5; build 5 -> 2; count 1 -> 5",
        "make 6 0 1 0 -> 6; make 4 6 1 0 -> 7; build 7 -> 2; react 0 -> 0; register 0 -> 0; register 1 -> 1",
        "make 3 1 1 0 -> 8; make 5 8 0 0 -> 9; build 9 -> 4; count 1 -> 7",
        "react 0 -> 0; register 0 -> 1; react 0 -> 0; register 1 -> 1; register 0 -> 0",
        "react 0 -> 0; register 2 -> 1; react 0 -> 0; register 3 -> 1; react 0 -> 0; register 0 -> 1");
    RUNS.run("4 at its beginning", BASE, "make 3 1 2 0 -> 4; build 4 -> 1; react 0 -> 0; register 0 -> 1",
        "build 4 -> 1; register 0 -> 0; count 2 -> 0; react 0 -> 0; react 0 -> 8; over -> 1",
        "build 4 -> 1; over -> 0; count 2 -> 0; react 0 -> 0; react 0 -> 8; build 0 -> 0; over -> 0; count 1 -> 1");
    RUNS.run("4 later statements change nothing", BASE,
        "build 1 -> 1; make 3 1 2 0 -> 4; make 8 3 4 0 -> 5; count 1 -> 1; react 0 -> 0; react 0 -> 0; over -> 1");
    RUNS.run("4 loops have two copies", BASE, "make 5 1 0 0 -> 4; make 5 4 0 0 -> 5; make 5 5 0 0 -> 6",
        "build 4 -> 2; count 1 -> 3; build 5 -> 4; count 1 -> 7; build 6 -> 8; count 1 -> 15");
  }

  private static void buildRefuses() {
    RUNS.run("4 no such statement", "build 0 -> " + INDEX, BASE, "build 4 -> " + INDEX, "build -1 -> " + INDEX,
        "build 60 -> " + INDEX, "build 2147483647 -> " + INDEX, "build -2147483648 -> " + INDEX, "count 1 -> 0");
    RUNS.run("4 loops that never wait", BASE, "make 5 0 0 0 -> 4; build 4 -> " + REFUSED,
        "make 6 0 0 1 -> 5; make 5 5 0 0 -> 6; build 6 -> " + REFUSED,
        "make 3 1 4 0 -> 7; build 7 -> " + REFUSED, "make 3 4 1 0 -> 8; build 8 -> " + REFUSED,
        "make 9 7 0 0 -> 9; make 8 3 9 0 -> 10; make 7 0 10 0 -> 11; make 6 0 1 11 -> 12; make 4 1 12 0 -> 13",
        "build 13 -> " + REFUSED, "make 4 12 1 0 -> 14; build 14 -> " + REFUSED,
        "make 5 4 0 0 -> 15; can 15 -> 0; build 15 -> " + REFUSED,
        "make 5 1 0 0 -> 16; build 16 -> 2; make 4 5 1 0 -> 17; make 5 17 0 0 -> 18; build 18 -> 4");
    RUNS.run("4 exits", BASE, "make 10 0 0 0 -> 4; build 4 -> " + REFUSED, "make 9 4 0 0 -> 5; build 5 -> 0",
        "make 10 1 0 0 -> 6; make 9 6 0 0 -> 7; build 7 -> " + REFUSED, "make 9 7 0 0 -> 8; build 8 -> 0",
        "make 10 3 0 0 -> 9; make 9 9 0 0 -> 10; make 9 10 0 0 -> 11; make 9 11 0 0 -> 12; build 12 -> " + REFUSED,
        "make 9 12 0 0 -> 13; build 13 -> 0; make 3 13 4 0 -> 14; build 14 -> " + REFUSED,
        "make 3 1 14 0 -> 15; build 15 -> " + REFUSED, "make 9 15 0 0 -> 16; build 16 -> 1",
        "make 4 4 5 0 -> 17; build 17 -> " + REFUSED, "make 9 17 0 0 -> 18; build 18 -> 0",
        "make 5 4 0 0 -> 19; build 19 -> " + REFUSED, "make 9 19 0 0 -> 20; build 20 -> 0");
  }

  private static void buildLimits() {
    // 4 .. 10 have 3, 7, 15, 31, 63, 127, 255 copies.
    RUNS.run("4 copies", BASE,
        "make 4 0 0 0 -> 4; make 4 4 4 0 -> 5; make 4 5 5 0 -> 6; make 4 6 6 0 -> 7; make 4 7 7 0 -> 8",
        "make 4 8 8 0 -> 9; make 4 9 9 0 -> 10; build 10 -> 0; count 1 -> 255",
        "make 8 3 4 0 -> 11; make 3 5 11 0 -> 12; make 3 7 12 0 -> 13; make 3 10 13 0 -> 14",
        "build 14 -> 0; count 1 -> 300; react 0 -> 0; over -> 1",
        "make 8 3 14 0 -> 15; build 15 -> " + REFUSED, "make 4 10 10 0 -> 16; build 16 -> " + REFUSED,
        "count 1 -> 300");
    // 4 .. 8 have 2, 4, 8, 16, 32 PAUSES.
    RUNS.run("4 registers", BASE,
        "make 4 1 1 0 -> 4; make 4 4 4 0 -> 5; make 4 5 5 0 -> 6; make 4 6 6 0 -> 7; make 4 7 7 0 -> 8",
        "make 4 8 7 0 -> 9; make 4 9 6 0 -> 10; make 4 10 5 0 -> 11; build 11 -> 60; count 1 -> 119",
        "react 0 -> 0; register 59 -> 1; register 60 -> " + INDEX,
        "make 4 11 1 0 -> 12; build 12 -> " + REFUSED, "make 3 11 1 0 -> 13; build 13 -> " + REFUSED,
        "make 4 11 0 0 -> 14; build 14 -> 60");
    ReactiveWires huge = RUNS.run("4 huge", BASE);
    for (int made = 4; made < 23; made++) {
      RUNS.more("4 huge", huge, "make 5 " + (made == 4 ? 1 : made - 1) + " 0 0 -> " + made);
    }
    RUNS.more("4 huge", huge, "build 22 -> " + REFUSED, "count 1 -> 0; react 0 -> " + STATE);
  }

  private static void refusedBuildChangesNothing() {
    RUNS.run("4 the program before stays", BASE,
        "make 3 1 2 0 -> 4; make 6 4 3 0 -> 5; make 2 5 0 0 -> 6; make 6 5 6 5 -> 7; make 3 4 7 0 -> 8",
        "make 5 0 0 0 -> 9; make 10 0 0 0 -> 10; build 8 -> 1; react 0 -> 0; react 0 -> " + STATE,
        "unknown -> 2; build 9 -> " + REFUSED, "build 10 -> " + REFUSED, "build 99 -> " + INDEX,
        "unknown -> 2; count 1 -> 9; count 2 -> 1; count 3 -> 1; register 0 -> 1; over -> 0; react 0 -> " + STATE,
        "reset -> 1; build 4 -> 1; react 0 -> 0; react 0 -> 8; over -> 1; build 9 -> " + REFUSED, "over -> 1; count 2 -> 2");
  }

  private static void reactRefuses() {
    RUNS.run("5 wrong inputs", "react 8 -> " + BAD, "react -1 -> " + BAD, "react 0 -> " + STATE, BASE,
        "build 1 -> 1; react 8 -> " + BAD, "react -1 -> " + BAD, "react 2147483647 -> " + BAD,
        "react -2147483648 -> " + BAD, "count 2 -> 0; count 3 -> 0; register 0 -> 0; over -> 0",
        "react 7 -> 7; react 9 -> " + BAD, "count 2 -> 1; react 0 -> 0; over -> 1; react 8 -> " + BAD, "count 2 -> 2");
    RUNS.run("5 a statement is no program", BASE, "react 0 -> " + STATE, "count 3 -> 0");
  }

  private static void reactSequenceAndParallel() {
    RUNS.run("5 sequence", BASE, "make 3 2 1 0 -> 4; make 3 4 3 0 -> 5; build 5 -> 1",
        "react 1 -> 9; over -> 0; react 2 -> 18; over -> 1; react 4 -> 4; react 0 -> 0");
    RUNS.run("5 parallel waits for both", BASE,
        "make 3 1 2 0 -> 4; make 3 1 4 0 -> 5; make 4 4 5 0 -> 6; make 3 6 3 0 -> 7; build 7 -> 3",
        "react 0 -> 0; register 0 -> 1; register 1 -> 1; register 2 -> 0",
        "react 0 -> 8; register 0 -> 0; register 1 -> 0; register 2 -> 1; over -> 0; react 0 -> 24; over -> 1");
    RUNS.run("5 parallel whose sides end apart", BASE,
        "make 3 1 1 0 -> 4; make 4 1 4 0 -> 5; make 4 4 1 0 -> 6; make 3 5 2 0 -> 7; make 3 6 2 0 -> 8",
        "build 7 -> 3; react 0 -> 0; react 0 -> 0; react 0 -> 8; over -> 1",
        "build 8 -> 3; react 0 -> 0; react 0 -> 0; react 0 -> 8; over -> 1");
    RUNS.run("5 all outputs and others", "make 2 3 0 0 -> 0; make 2 4 0 0 -> 1; make 2 5 0 0 -> 2; make 2 6 0 0 -> 3",
        "make 2 7 0 0 -> 4; make 4 0 1 0 -> 5; make 3 5 2 0 -> 6; make 4 6 3 0 -> 7; make 3 7 4 0 -> 8",
        "build 8 -> 0; react 0 -> 248; reset -> 1; react 5 -> 253");
  }

  private static void reactLoop() {
    RUNS.run("5 loop", BASE, "make 3 2 1 0 -> 4; make 5 4 0 0 -> 5; build 5 -> 2",
        "react 0 -> 8; register 0 -> 1; register 1 -> 0; react 0 -> 8; register 0 -> 0; register 1 -> 1",
        "react 0 -> 8; register 0 -> 1; register 1 -> 0; over -> 0");
    RUNS.run("5 what is behind a loop never starts", BASE, "make 5 1 0 0 -> 4; make 3 4 2 0 -> 5; build 5 -> 2",
        "react 0 -> 0; react 0 -> 0; react 0 -> 0; over -> 0");
    RUNS.run("5 loop in a loop", BASE, "make 3 1 2 0 -> 4; make 5 4 0 0 -> 5; make 5 5 0 0 -> 6; build 6 -> 4",
        "react 0 -> 0; react 0 -> 8; react 0 -> 8; react 0 -> 8; over -> 0");
  }

  private static void reactPresent() {
    RUNS.run("5 a later emit is seen before", BASE,
        "make 6 4 2 0 -> 4; make 4 4 3 0 -> 5; build 5 -> 0; react 0 -> 24",
        "make 3 4 3 0 -> 6; build 6 -> 0; react 0 -> " + STATE, "make 4 4 0 0 -> 7; build 7 -> 0; react 0 -> 0");
    RUNS.run("5 present asks when it starts", BASE,
        "make 6 0 1 0 -> 4; make 3 4 2 0 -> 5; build 5 -> 1; react 1 -> 1; react 1 -> 9; reset -> 2; react 0 -> 8");
    RUNS.run("5 a chain of signals against the order", BASE, "make 2 5 0 0 -> 4; make 2 6 0 0 -> 5; make 2 7 0 0 -> 6",
        "make 6 4 2 0 -> 7; make 6 5 3 0 -> 8; make 6 6 4 0 -> 9; make 6 7 5 0 -> 10; make 6 1 6 0 -> 11",
        "make 4 7 8 0 -> 12; make 4 12 9 0 -> 13; make 4 13 10 0 -> 14; make 4 14 11 0 -> 15",
        "build 15 -> 0; react 2 -> 250; reset -> 1; react 0 -> 0; over -> 1");
  }

  private static void reactSuspend() {
    RUNS.run("5 suspend", BASE, "make 3 2 1 0 -> 4; make 3 4 3 0 -> 5; make 7 0 5 0 -> 6; build 6 -> 1",
        "react 1 -> 9; register 0 -> 1; react 1 -> 1; register 0 -> 1; over -> 0; react 0 -> 16; over -> 1");
    RUNS.run("5 suspended, it waits beside others", BASE,
        "make 7 1 1 0 -> 4; make 4 4 2 0 -> 5; make 3 5 3 0 -> 6; build 6 -> 1",
        "react 2 -> 10; react 2 -> 2; over -> 0; react 1 -> 17; over -> 1");
    RUNS.run("5 suspend in a suspend", BASE,
        "make 7 1 1 0 -> 4; make 7 0 4 0 -> 5; make 3 5 2 0 -> 6; build 6 -> 1",
        "react 3 -> 3; react 1 -> 1; register 0 -> 1; react 2 -> 2; register 0 -> 1; react 3 -> 3; register 0 -> 1; react 4 -> 12");
    RUNS.run("5 suspended and left", BASE, "make 10 0 0 0 -> 4; make 3 1 4 0 -> 5; make 7 0 1 0 -> 6",
        "make 4 5 6 0 -> 7; make 9 7 0 0 -> 8; make 3 8 1 0 -> 9; build 9 -> 3",
        "react 0 -> 0; react 1 -> 1; register 0 -> 0; register 1 -> 0; register 2 -> 1; react 0 -> 0; over -> 1");
    RUNS.run("5 suspended by its own end", BASE,
        "make 3 1 2 0 -> 4; make 7 3 4 0 -> 5; build 5 -> 1; react 0 -> 0; react 0 -> " + STATE,
        "unknown -> 1; register 0 -> 1; count 2 -> 1; react 0 -> " + STATE, "count 3 -> 2; over -> 0");
    // Neither side of the PARALLEL is known to end, so that what is behind it is unknown too.
    RUNS.run("5 suspended by an unknown signal", BASE,
        "make 7 3 1 0 -> 4; make 6 3 2 1 -> 5; make 3 1 5 0 -> 6; make 4 4 6 0 -> 7; make 3 7 3 0 -> 8",
        "build 8 -> 3; react 0 -> 0; react 0 -> " + STATE, "unknown -> 2; register 0 -> 1; register 1 -> 1; register 2 -> 0");
  }

  private static void reactLocal() {
    RUNS.run("5 local", BASE, "make 6 3 3 0 -> 4; make 4 2 4 0 -> 5; make 8 3 5 0 -> 6; build 6 -> 0; react 0 -> 16",
        "make 4 6 4 0 -> 7; build 7 -> 0; react 0 -> 16; make 4 2 6 0 -> 8; build 8 -> 0; react 0 -> 24",
        "make 8 3 4 0 -> 9; make 4 2 9 0 -> 10; build 10 -> 0; react 0 -> 8");
    RUNS.run("5 local in a local", BASE, "make 6 3 3 0 -> 4; make 8 3 4 0 -> 5; make 4 5 2 0 -> 6; make 8 3 6 0 -> 7",
        "build 7 -> 0; react 0 -> 0; make 6 3 7 3 -> 8; build 8 -> 0; react 0 -> 16",
        "make 8 3 2 0 -> 9; make 4 9 4 0 -> 10; make 8 3 10 0 -> 11; build 11 -> 0; react 0 -> 0");
    // The second copy starts with a signal of its own in the instant in which the first one emits.
    RUNS.run("5 each copy its own", BASE,
        "make 6 3 3 0 -> 4; make 3 4 1 0 -> 5; make 3 5 2 0 -> 6; make 8 3 6 0 -> 7; make 5 7 0 0 -> 8",
        "build 8 -> 2; count 1 -> 17; react 0 -> 0; react 0 -> 0; react 0 -> 0; register 0 -> 1");
    RUNS.run("5 one for both copies", BASE,
        "make 6 3 3 0 -> 4; make 3 4 1 0 -> 5; make 3 5 2 0 -> 6; make 5 6 0 0 -> 7; make 8 3 7 0 -> 8",
        "build 8 -> 2; react 0 -> 0; react 0 -> 16; react 0 -> 16");
  }

  private static void reactTrap() {
    RUNS.run("5 trap", BASE, "make 10 0 0 0 -> 4; make 3 4 2 0 -> 5; make 9 5 0 0 -> 6; make 3 6 3 0 -> 7",
        "build 7 -> 0; react 0 -> 16; over -> 1");
    RUNS.run("5 what is left ends behind its instant", BASE,
        "make 3 2 1 0 -> 4; make 5 4 0 0 -> 5; make 10 0 0 0 -> 6; make 3 1 6 0 -> 7; make 4 5 7 0 -> 8; make 9 8 0 0 -> 9",
        "make 3 9 3 0 -> 10; build 10 -> 3; react 0 -> 8; react 0 -> 24; over -> 1",
        "register 0 -> 0; register 1 -> 0; register 2 -> 0");
    RUNS.run("5 the outer trap", BASE, "make 10 1 0 0 -> 4; make 3 1 4 0 -> 5; make 4 5 1 0 -> 6; make 9 6 0 0 -> 7",
        "make 3 7 2 0 -> 8; make 9 8 0 0 -> 9; make 3 9 3 0 -> 10; build 10 -> 2; react 0 -> 0; react 0 -> 16; over -> 1");
    RUNS.run("5 the greater exit wins", BASE, "make 10 0 0 0 -> 4; make 10 1 0 0 -> 5; make 4 4 5 0 -> 6; make 9 6 0 0 -> 7",
        "make 3 7 2 0 -> 8; make 9 8 0 0 -> 9; make 3 9 3 0 -> 10; build 10 -> 0; react 0 -> 16",
        "make 4 5 4 0 -> 11; make 9 11 0 0 -> 12; make 3 12 2 0 -> 13; make 9 13 0 0 -> 14; build 14 -> 0; react 0 -> 0");
    RUNS.run("5 four traps", BASE, "make 10 3 0 0 -> 4; make 9 4 0 0 -> 5; make 3 5 2 0 -> 6; make 9 6 0 0 -> 7",
        "make 3 7 2 0 -> 8; make 9 8 0 0 -> 9; make 3 9 2 0 -> 10; make 9 10 0 0 -> 11; make 3 11 3 0 -> 12",
        "build 12 -> 0; react 0 -> 16; over -> 1");
    RUNS.run("5 a trap ends as p does", BASE, "make 9 1 0 0 -> 4; make 3 4 2 0 -> 5; build 5 -> 1; react 0 -> 0; react 0 -> 8");
  }

  private static void reactNotConstructive() {
    RUNS.run("5 all or nothing", BASE,
        "make 6 3 2 0 -> 4; make 3 1 4 0 -> 5; build 5 -> 1",
        "react 0 -> 0; react 0 -> " + STATE, "register 0 -> 1; count 2 -> 1; count 3 -> 1; over -> 0",
        "react 0 -> " + STATE, "register 0 -> 1; count 2 -> 1; count 3 -> 2");
    // The first instant comes again after one that was not constructive.
    RUNS.run("5 still the first instant", BASE,
        "make 6 3 2 0 -> 4; make 6 0 2 4 -> 5; make 3 5 1 0 -> 6; build 6 -> 1; react 0 -> " + STATE,
        "react 1 -> 9; count 2 -> 1; register 0 -> 1; react 0 -> 0; over -> 1; count 3 -> 1");
    // Whichever way the question were answered the signal would be there, but nobody tries both ways.
    RUNS.run("5 no guessing", BASE, "make 6 3 2 2 -> 4; build 4 -> 0; react 0 -> " + STATE, "unknown -> 1");
    // The root ends for sure, but a wire in the loop that did not start is unknown.
    RUNS.run("5 root's K0 is true, but a wire is unknown", BASE,
        "make 4 1 2 0 -> 4; make 5 4 0 0 -> 5; make 6 0 5 0 -> 6; make 4 6 0 0 -> 7; build 7 -> 2",
        "react 0 -> " + STATE, "over -> 0; count 2 -> 0; unknown -> 1; react 1 -> 9; over -> 0");
  }

  private static void unknown() {
    RUNS.run("6 unknown", "unknown -> 0", BASE, "make 6 3 2 0 -> 4; make 6 4 3 0 -> 5; make 4 4 5 0 -> 6; make 8 4 6 0 -> 7",
        "make 6 0 6 7 -> 8; build 8 -> 0; unknown -> 0; react 1 -> " + STATE, "unknown -> 2; react 0 -> " + STATE, "unknown -> 1",
        "react 1 -> " + STATE, "unknown -> 2; reset -> 0; unknown -> 2; build 0 -> 0; unknown -> 0; count 3 -> 3");
    RUNS.run("6 stays behind a constructive instant", BASE,
        "make 6 3 2 0 -> 4; make 6 0 1 4 -> 5; build 5 -> 1; react 0 -> " + STATE,
        "unknown -> 1; react 1 -> 1; unknown -> 1; react 8 -> " + BAD, "unknown -> 1; react 0 -> 0; over -> 1",
        "react 0 -> 0; unknown -> 1; reset -> 3; unknown -> 1; build 5 -> 1; unknown -> 0");
    RUNS.run("6 a LOCAL's does not count", BASE,
        "make 6 3 2 0 -> 4; make 8 3 4 0 -> 5; build 5 -> 0; react 0 -> " + STATE, "unknown -> 0; count 3 -> 1");
  }

  private static void reset() {
    RUNS.run("7 reset", "reset -> " + STATE, BASE, "reset -> " + STATE,
        "make 3 1 2 0 -> 4; build 4 -> 1; reset -> 0; react 0 -> 0; reset -> 1; register 0 -> 0; count 2 -> 0",
        "react 0 -> 0; react 0 -> 8; over -> 1; react 0 -> 0; reset -> 3; over -> 0; react 0 -> 0; react 0 -> 8",
        "count 1 -> 3; reset -> 2; reset -> 0; count 0 -> 5; count 1 -> 3");
    RUNS.run("7 only constructive instants", BASE, "make 6 3 2 0 -> 4; make 3 1 4 0 -> 5; build 5 -> 1",
        "react 0 -> 0; react 0 -> " + STATE, "react 0 -> " + STATE, "reset -> 1; count 3 -> 2; react 0 -> 0; register 0 -> 1");
  }

  private static void register() {
    RUNS.run("8 register", "register 0 -> " + INDEX, BASE, "register 0 -> " + INDEX,
        "make 3 1 1 0 -> 4; build 4 -> 2; register 0 -> 0; register 1 -> 0; register 2 -> " + INDEX,
        "register -1 -> " + INDEX, "register 59 -> " + INDEX, "register 60 -> " + INDEX,
        "register 2147483647 -> " + INDEX, "register -2147483648 -> " + INDEX,
        "react 0 -> 0; register 0 -> 1; register 1 -> 0; react 0 -> 0; register 0 -> 0; register 1 -> 1",
        "react 0 -> 0; register 0 -> 0; register 1 -> 0; build 1 -> 1; register 1 -> " + INDEX,
        "build 0 -> 0; register 0 -> " + INDEX);
  }

  private static void over() {
    RUNS.run("9 over", "over -> 0", BASE, "over -> 0; build 0 -> 0; over -> 0; react 0 -> 0; over -> 1",
        "react 7 -> 7; over -> 1; count 2 -> 2; build 2 -> 0; over -> 0; react 0 -> 8; over -> 1; react 6 -> 6; over -> 1",
        "reset -> 2; over -> 0; react 0 -> 8; over -> 1; build 1 -> 1; over -> 0; react 0 -> 0; over -> 0; react 0 -> 0; over -> 1");
  }

  private static void count() {
    RUNS.run("10 count", BASE, "count 0 -> 4; count 1 -> 0; make 3 1 2 0 -> 4; count 0 -> 5; build 4 -> 1",
        "count 1 -> 3; count 2 -> 0; react 0 -> 0; count 2 -> 1; react 0 -> 8; react 0 -> 0; count 2 -> 3; reset -> 3; count 2 -> 0",
        "make 6 3 2 0 -> 5; build 5 -> 0; react 0 -> " + STATE, "count 3 -> 1; count 2 -> 0; reset -> 0; count 3 -> 1",
        "build 4 -> 1; count 3 -> 1; react 0 -> 0; build 5 -> 0; react 0 -> " + STATE, "count 3 -> 2; react 8 -> " + BAD, "count 3 -> 2");
    RUNS.run("10 wrong", "count -1 -> " + INDEX, "count 4 -> " + INDEX, "count 2147483647 -> " + INDEX,
        "count -2147483648 -> " + INDEX);
  }

  private static void longUse() {
    ReactiveWires wires = RUNS.run("long use", BASE, "make 3 2 1 0 -> 4; make 5 4 0 0 -> 5; build 5 -> 2");
    for (int i = 0; i < 505; i++) {
      RUNS.more("long use", wires, "react 0 -> 8");
    }
  }
}
