/**
 * The fourth paragraph of "Terms", its text block and the paragraph behind it, with promise 5, sentence by sentence:
 * the three values, what comes to the root, each kind's equations, instants that are not constructive, registers
 * afterwards, and what happens once the program is over.
 */
final class InstantsTest {
  private static final String BAD = Runs.BAD;
  private static final String STATE = Runs.STATE;

  // Statements that answer code 0, 1, .. 5 where they start.
  private static final String[] LEAVES = {"nothing", "pause", "exit0", "exit1", "exit2", "exit3"};

  // Tells by its signals with which code X is left: all of what is behind the TRAP that is left is emitted.
  private static final String FRAME = "seq(trap(seq(trap(seq(trap(seq(trap(seq(X,emit3)),emit4)),emit5)),emit6)),emit7)";
  private static final int[] TOLD = {248, 0, 240, 224, 192, 128};

  // What can be around X so that it starts and ends with X, when input 2 is there and input 1 is not.
  private static final String[] AROUND = {"X", "seq(X,nothing)", "seq(nothing,X)", "par(X,nothing)", "par(nothing,X)",
      "trap(loop(seq(X,exit0)))", "if2(X,nothing)", "if1(nothing,X)", "suspend1(X)", "local7(X)", "trap(X)"};

  // Signal 6 is unknown where it starts.
  private static final String UNKNOWN = "if6(emit6,nothing)";

  // In each instant in which input 0 is not there, signals 6 and 3 are unknown.
  private static final String UNKNOWN_EACH_TIME = "loop(seq(if0(nothing,par(" + UNKNOWN + ",if6(emit3,nothing))),pause))";

  private static final Runs RUNS = new Runs();

  public static void main(String[] args) {
    andOfThreeValues();
    orOfThreeValues();
    notOfThreeValues();
    rootStartsInTheFirstInstantAlone();
    rootResumesInLaterInstants();
    rootIsNeitherSuspendedNorKilled();
    inputsAreAsGiven();
    signalIsTheOrOfItsEmits();
    signalWithoutEmits();
    everySignalIsAnswered();
    nothingAndEmit();
    pause();
    exit();
    sequence();
    sequenceLater();
    parallel();
    parallelLater();
    parallelWithADeadSide();
    loop();
    loopFromItsSecondCopy();
    present();
    presentLater();
    suspend();
    suspendWhereItStarts();
    suspendInASuspend();
    local();
    trap();
    goAndResComeToThoseInIt();
    waitingGoesOut();
    selectedGoesOut();
    suspComesToThoseInIt();
    suspendedWaits();
    killComesToThoseInIt();
    killComesFromFurtherOut();
    killStaysInItsTrap();
    registersAfterwards();
    leastSolution();
    unknownThroughEachKind();
    unknownRoundALoop();
    unknownWhetherSuspended();
    notConstructive();
    notConstructiveWithoutAnUnknownSignal();
    notConstructiveInTheFirstInstant();
    over();
    nothingHappensOnceOver();
    notOverWhileNotConstructive();
    RUNS.end();
  }

  private static String framed(String statement) {
    return FRAME.replace("X", statement);
  }

  private static void andOfThreeValues() {
    RUNS.run("false & unknown is false", "build par(" + UNKNOWN + ",if0(if6(emit3,nothing),nothing)) -> 0; react 0 -> " + STATE, "unknown -> 1");
    RUNS.run("true & unknown is unknown", "build par(" + UNKNOWN + ",if0(if6(emit3,nothing),nothing)) -> 0; react 1 -> " + STATE, "unknown -> 2");
    RUNS.run("unknown & false is false", "build par(" + UNKNOWN + ",seq(" + UNKNOWN + ",if0(emit3,nothing))) -> 0; react 0 -> " + STATE, "unknown -> 1");
    RUNS.run("unknown & true is unknown", "build par(" + UNKNOWN + ",seq(if6(nothing,pause),if0(emit3,nothing))) -> 1; react 1 -> " + STATE, "unknown -> 2");
    RUNS.run("unknown & unknown is unknown", "build par(" + UNKNOWN + ",if6(if6(emit3,nothing),nothing)) -> 0; react 0 -> " + STATE, "unknown -> 2");
  }

  private static void orOfThreeValues() {
    RUNS.run("true | unknown is true", "build par(" + UNKNOWN + ",par(emit3,if6(emit3,nothing))) -> 0; react 0 -> " + STATE, "unknown -> 1");
    RUNS.run("unknown | true is true", "build par(" + UNKNOWN + ",par(if6(emit3,nothing),emit3)) -> 0; react 0 -> " + STATE, "unknown -> 1");
    RUNS.run("false | unknown is unknown", "build par(" + UNKNOWN + ",par(if0(emit3,nothing),if6(emit3,nothing))) -> 0; react 0 -> " + STATE,
        "unknown -> 2; react 1 -> " + STATE, "unknown -> 1");
    RUNS.run("unknown | unknown is unknown", "build par(" + UNKNOWN + ",if6(emit3,emit3)) -> 0; react 0 -> " + STATE, "unknown -> 2");
  }

  private static void notOfThreeValues() {
    RUNS.run("not unknown is unknown", "build par(" + UNKNOWN + ",if6(nothing,emit3)) -> 0; react 0 -> " + STATE, "unknown -> 2");
    RUNS.run("not true is false, not false is true", "build if0(nothing,emit3) -> 0; react 1 -> 1; reset -> 1; react 0 -> 8");
  }

  private static void rootStartsInTheFirstInstantAlone() {
    RUNS.run("GO", "build seq(emit3,pause,pause) -> 2; react 0 -> 8; react 0 -> 0; react 0 -> 0; over -> 1");
    RUNS.run("GO", "build par(emit3,loop(pause)) -> 2; react 0 -> 8; react 0 -> 0; react 0 -> 0; reset -> 3; react 0 -> 8; react 0 -> 0");
  }

  private static void rootResumesInLaterInstants() {
    RUNS.run("RES", "build seq(pause,emit3,pause,emit4) -> 2; react 0 -> 0; react 0 -> 8; react 0 -> 16; over -> 1");
    RUNS.run("RES is false in the first", "build suspend0(seq(pause,emit3)) -> 1; react 1 -> 1; react 0 -> 8");
  }

  private static void rootIsNeitherSuspendedNorKilled() {
    RUNS.run("SUSP is false", "build seq(pause,pause) -> 2; react 0 -> 0; registers -> 10; react 0 -> 0; registers -> 01; react 0 -> 0; registers -> 00");
    RUNS.run("KILL is false", "build pause -> 1; react 0 -> 0; register 0 -> 1");
  }

  private static void inputsAreAsGiven() {
    ReactiveWires wires = RUNS.run("inputs", "build loop(pause) -> 2");
    for (int inputs = 0; inputs <= 7; inputs++) {
      RUNS.more("inputs", wires, "react " + inputs + " -> " + inputs);
    }
    ReactiveWires asking = RUNS.run("each input", "build loop(seq(par(if0(emit3,nothing),if1(emit4,nothing),if2(emit5,nothing)),pause)) -> 2");
    for (int inputs = 7; inputs >= 0; inputs--) {
      RUNS.more("each input", asking, "react " + inputs + " -> " + (inputs | inputs << 3));
    }
    RUNS.run("of this instant alone", "build seq(pause,if0(emit3,emit4)) -> 1; react 1 -> 1; react 0 -> 16; reset -> 2; react 0 -> 0; react 1 -> 9");
  }

  private static void signalIsTheOrOfItsEmits() {
    RUNS.run("two EMITS", "build par(if0(emit3,nothing),if1(emit3,nothing)) -> 0; react 0 -> 0; reset -> 1; react 1 -> 9",
        "reset -> 1; react 2 -> 10; reset -> 1; react 3 -> 11");
    RUNS.run("an EMIT behind the question", "build seq(pause,par(if3(emit4,nothing),emit3)) -> 1; react 0 -> 0; react 0 -> 24");
    RUNS.run("for its instant alone", "build seq(emit3,pause,if3(emit4,emit5)) -> 1; react 0 -> 8; react 0 -> 32");
    RUNS.run("both copies of a LOOP", "build par(loop(seq(pause,emit3)),loop(seq(if3(emit4,nothing),pause))) -> 4",
        "react 0 -> 0; react 0 -> 24; react 0 -> 24");
  }

  private static void signalWithoutEmits() {
    for (int s = 3; s <= 7; s++) {
      int other = s == 3 ? 4 : 3;
      RUNS.run("false when there is none", "build if" + s + "(nothing,emit" + other + ") -> 0; react 0 -> " + (1 << other));
      RUNS.run("never suspended by it", "build suspend" + s + "(seq(pause,emit" + other + ")) -> 1; react 0 -> 0; react 0 -> " + (1 << other));
    }
  }

  private static void everySignalIsAnswered() {
    RUNS.run("all that are not inputs", "build par(emit3,emit4,emit5,emit6,emit7) -> 0; react 0 -> 248; reset -> 1; react 7 -> 255");
    for (int s = 3; s <= 7; s++) {
      RUNS.run("each", "build emit" + s + " -> 0; react 0 -> " + (1 << s) + "; reset -> 1; react 7 -> " + (7 | 1 << s));
    }
  }

  private static void nothingAndEmit() {
    RUNS.run("NOTHING: K0 = GO", "build " + framed("nothing") + " -> 0; react 0 -> 248; over -> 1");
    RUNS.run("EMIT: K0 = GO", "build " + framed("emit7") + " -> 0; react 0 -> 248; over -> 1");
    RUNS.run("not without GO", "build seq(pause,seq(nothing,emit3)) -> 1; react 0 -> 0; over -> 0; react 0 -> 8; over -> 1");
  }

  private static void pause() {
    RUNS.run("PAUSE", "build " + framed("pause") + " -> 1; react 0 -> 0; over -> 0; register 0 -> 1; react 0 -> 248; over -> 1; register 0 -> 0");
  }

  private static void exit() {
    for (int n = 0; n <= 3; n++) {
      RUNS.run("EXIT: K(2 + n) = GO", "build " + framed("exit" + n) + " -> 0; react 0 -> " + TOLD[2 + n] + "; over -> 1");
      RUNS.run("not without GO", "build " + framed("seq(pause,exit" + n + ")") + " -> 1; react 0 -> 0; over -> 0; react 0 -> " + TOLD[2 + n] + "; over -> 1");
    }
  }

  private static void sequence() {
    for (int p = 0; p <= 5; p++) {
      for (int q = 0; q <= 5; q++) {
        int code = p == 0 ? q : p;
        RUNS.run("SEQUENCE of codes " + p + ", " + q, "build " + framed("seq(" + LEAVES[p] + "," + LEAVES[q] + ")") + " -> " + waits(p, q),
            "react 0 -> " + TOLD[code] + "; over -> " + (code == 1 ? 0 : 1));
      }
    }
    RUNS.run("q starts where p ends, not before", "build seq(emit3,pause,emit4,pause,emit5) -> 2; react 0 -> 8; react 0 -> 16; react 0 -> 32; over -> 1");
  }

  private static int waits(int p, int q) {
    return (p == 1 ? 1 : 0) + (q == 1 ? 1 : 0);
  }

  private static void sequenceLater() {
    for (int code = 0; code <= 5; code++) {
      RUNS.run("from q, later", "build " + framed("seq(pause," + LEAVES[code] + ")") + " -> " + waits(1, code), "react 0 -> 0; react 0 -> " + TOLD[code]);
      RUNS.run("from p, later", "build " + framed("seq(seq(pause," + LEAVES[code] + "),nothing)") + " -> " + waits(1, code),
          "react 0 -> 0; react 0 -> " + TOLD[code]);
    }
  }

  private static void parallel() {
    for (int p = 0; p <= 5; p++) {
      for (int q = 0; q <= 5; q++) {
        int code = Math.max(p, q);
        RUNS.run("PARALLEL of codes " + p + ", " + q, "build " + framed("par(" + LEAVES[p] + "," + LEAVES[q] + ")") + " -> " + waits(p, q),
            "react 0 -> " + TOLD[code] + "; over -> " + (code == 1 ? 0 : 1));
      }
    }
  }

  private static void parallelLater() {
    for (int p = 0; p <= 5; p++) {
      for (int q = 0; q <= 5; q++) {
        int code = Math.max(p, q);
        RUNS.run("PARALLEL of codes " + p + ", " + q + ", later",
            "build " + framed("par(seq(pause," + LEAVES[p] + "),seq(pause," + LEAVES[q] + "))") + " -> " + (2 + waits(p, q)),
            "react 0 -> 0; over -> 0; react 0 -> " + TOLD[code] + "; over -> " + (code == 1 ? 0 : 1));
      }
    }
  }

  private static void parallelWithADeadSide() {
    for (int code = 0; code <= 5; code++) {
      for (String sides : new String[] {"par(nothing,seq(pause,X))", "par(seq(pause,X),nothing)"}) {
        RUNS.run("a dead side", "build " + framed(sides.replace("X", LEAVES[code])) + " -> " + waits(1, code), "react 0 -> 0; react 0 -> " + TOLD[code]);
      }
    }
    RUNS.run("dead, though it waited before", "build seq(par(pause,seq(pause,pause)),emit3) -> 3; react 0 -> 0; react 0 -> 0; react 0 -> 8");
    RUNS.run("not dead where it starts", "build seq(par(pause,nothing),emit3) -> 1; react 0 -> 0; over -> 0; react 0 -> 8");
    RUNS.run("not dead while it is selected", "build seq(par(loop(pause),pause),emit3) -> 3; react 0 -> 0; react 0 -> 0; react 0 -> 0; over -> 0");
    RUNS.run("both dead", "build par(loop(pause),seq(par(nothing,nothing),emit3)) -> 2; react 0 -> 8; react 0 -> 0; react 0 -> 0");
    // A side that is not known to be dead: what is behind the PARALLEL is unknown, too.
    RUNS.run("perhaps dead", "build seq(if6(seq(par(pause,emit6),emit3),nothing),pause) -> 2; react 0 -> " + STATE, "unknown -> 2");
  }

  private static void loop() {
    for (int n = 0; n <= 3; n++) {
      RUNS.run("LOOP: codes as p's", "build " + framed("loop(exit" + n + ")") + " -> 0; react 0 -> " + TOLD[2 + n] + "; over -> 1");
    }
    RUNS.run("LOOP: K0 is false", "build " + framed("loop(pause)") + " -> 2; react 0 -> 0; react 0 -> 0; react 0 -> 0; react 0 -> 0; over -> 0");
    RUNS.run("LOOP: starts again where it ends", "build loop(seq(emit3,pause,emit4)) -> 2; react 0 -> 8; react 0 -> 24; react 0 -> 24; react 0 -> 24");
    RUNS.run("LOOP: not again while it waits", "build loop(seq(emit3,pause,pause)) -> 4; react 0 -> 8; react 0 -> 0; react 0 -> 8; react 0 -> 0; react 0 -> 8");
  }

  private static void loopFromItsSecondCopy() {
    for (int n = 0; n <= 3; n++) {
      ReactiveWires wires = RUNS.run("LOOP", "build " + framed("loop(seq(pause,if0(exit" + n + ",nothing)))") + " -> 2");
      for (int instants = 1; instants <= 4; instants++) {
        for (int i = 0; i < instants; i++) {
          RUNS.more("LOOP: goes round", wires, "react 0 -> 0; registers -> " + (i % 2 == 0 ? "10" : "01"));
        }
        RUNS.more("LOOP: left from either copy", wires, "react 1 -> " + (1 | TOLD[2 + n]) + "; over -> 1; registers -> 00; reset -> " + (instants + 1));
      }
    }
  }

  private static void present() {
    for (int p = 0; p <= 5; p++) {
      for (int q = 0; q <= 5; q++) {
        RUNS.run("PRESENT of codes " + p + ", " + q, "build " + framed("if0(" + LEAVES[p] + "," + LEAVES[q] + ")") + " -> " + waits(p, q),
            "react 1 -> " + (1 | TOLD[p]) + "; over -> " + (p == 1 ? 0 : 1) + "; reset -> 1; react 0 -> " + TOLD[q] + "; over -> " + (q == 1 ? 0 : 1));
      }
    }
    RUNS.run("PRESENT starts one side alone", "build if0(emit3,emit4) -> 0; react 1 -> 9; reset -> 1; react 0 -> 16; reset -> 1; react 6 -> 22");
    RUNS.run("PRESENT starts none without GO", "build seq(pause,if0(emit3,emit4)) -> 1; react 0 -> 0; reset -> 1; react 1 -> 1");
  }

  private static void presentLater() {
    for (int code = 0; code <= 5; code++) {
      RUNS.run("later the signal is not asked for", "build " + framed("if0(seq(pause," + LEAVES[code] + "),nothing)") + " -> " + waits(1, code),
          "react 1 -> 1; react 0 -> " + TOLD[code] + "; reset -> 2; react 1 -> 1; react 1 -> " + (1 | TOLD[code]));
      RUNS.run("later the signal is not asked for", "build " + framed("if0(nothing,seq(pause," + LEAVES[code] + "))") + " -> " + waits(1, code),
          "react 0 -> 0; react 1 -> " + (1 | TOLD[code]) + "; reset -> 2; react 0 -> 0; react 0 -> " + TOLD[code]);
    }
  }

  private static void suspend() {
    for (int code = 0; code <= 5; code++) {
      RUNS.run("SUSPEND: codes as p's", "build " + framed("suspend0(seq(pause," + LEAVES[code] + "))") + " -> " + waits(1, code),
          "react 0 -> 0; react 1 -> 1; over -> 0; react 1 -> 1; over -> 0; react 0 -> " + TOLD[code]);
    }
    RUNS.run("SUSPEND: RES & not s", "build suspend0(seq(pause,emit3)) -> 1; react 0 -> 0; react 1 -> 1; react 7 -> 7; react 6 -> 14; over -> 1");
    RUNS.run("SUSPEND: by an emitted signal", "build par(suspend3(seq(pause,emit4)),seq(pause,emit3,pause)) -> 3; react 0 -> 0; registers -> 110",
        "react 0 -> 8; registers -> 101; react 0 -> 16; registers -> 000; over -> 1");
    RUNS.run("SUSPEND: by each input", "build par(suspend0(seq(pause,emit3)),suspend1(seq(pause,emit4)),suspend2(seq(pause,emit5))) -> 3",
        "react 0 -> 0; react 3 -> 35; registers -> 110; react 5 -> 21; registers -> 100; react 6 -> 14; over -> 1");
    RUNS.run("SUSPEND: what is in it but not started stays so", "build suspend0(seq(pause,pause,emit3)) -> 2; react 0 -> 0; react 1 -> 1; registers -> 10",
        "react 0 -> 0; registers -> 01; react 1 -> 1; registers -> 01; react 0 -> 8");
    RUNS.run("SUSPEND: what is beside it goes on", "build par(suspend0(seq(pause,emit3)),seq(pause,emit4)) -> 2; react 0 -> 0; react 1 -> 17; registers -> 10; react 0 -> 8");
  }

  private static void suspendWhereItStarts() {
    for (int code = 0; code <= 5; code++) {
      RUNS.run("in the first instant", "build " + framed("suspend0(" + LEAVES[code] + ")") + " -> " + waits(0, code), "react 1 -> " + (1 | TOLD[code]));
      RUNS.run("in a later instant", "build " + framed("seq(pause,suspend0(" + LEAVES[code] + "))") + " -> " + waits(1, code),
          "react 0 -> 0; react 1 -> " + (1 | TOLD[code]));
    }
    RUNS.run("it starts, waits, and is suspended then", "build seq(pause,suspend0(seq(emit3,pause,emit4))) -> 2; react 1 -> 1; react 1 -> 9; registers -> 01",
        "react 1 -> 1; registers -> 01; react 0 -> 16");
    // Nothing is selected in it, so that it does not wait when the signal is there.
    RUNS.run("before it starts", "build seq(trap(par(seq(pause,pause,suspend0(pause)),seq(pause,exit0))),emit3) -> 4; react 1 -> 1; react 1 -> 9; over -> 1");
    RUNS.run("behind its end", "build par(suspend0(emit3),seq(pause,emit4)) -> 1; react 1 -> 9; react 1 -> 17; over -> 1");
  }

  private static void suspendInASuspend() {
    RUNS.run("either suspends", "build suspend0(suspend1(seq(pause,emit3))) -> 1; react 3 -> 3; react 1 -> 1; register 0 -> 1; react 2 -> 2; register 0 -> 1",
        "react 3 -> 3; register 0 -> 1; react 4 -> 12; over -> 1");
    RUNS.run("the inner one alone", "build suspend0(par(suspend1(seq(pause,emit3)),seq(pause,emit4))) -> 2; react 0 -> 0; react 1 -> 1; registers -> 11",
        "react 2 -> 18; registers -> 10; react 3 -> 3; registers -> 10; react 0 -> 8; over -> 1");
  }

  private static void local() {
    for (int code = 0; code <= 5; code++) {
      RUNS.run("LOCAL: as p", "build " + framed("local3(" + LEAVES[code] + ")") + " -> " + waits(0, code), "react 0 -> " + TOLD[code]);
      RUNS.run("LOCAL: as p, later", "build " + framed("local3(seq(pause," + LEAVES[code] + "))") + " -> " + waits(1, code), "react 0 -> 0; react 0 -> " + TOLD[code]);
    }
  }

  private static void trap() {
    int[] outside = {0, 1, 0, 2, 3, 4};
    for (int code = 0; code <= 5; code++) {
      RUNS.run("TRAP of code " + code, "build " + framed("trap(" + LEAVES[code] + ")") + " -> " + waits(0, code), "react 0 -> " + TOLD[outside[code]]);
      RUNS.run("TRAP of code " + code + ", later", "build " + framed("trap(seq(pause," + LEAVES[code] + "))") + " -> " + waits(1, code),
          "react 0 -> 0; react 0 -> " + TOLD[outside[code]]);
    }
    for (int n = 0; n <= 3; n++) {
      RUNS.run("as many TRAPS as it leaves", "build seq(" + Programs.inTraps(n + 1, "seq(exit" + n + ",emit4)") + ",emit3) -> 0; react 0 -> 8; over -> 1");
    }
  }

  private static void goAndResComeToThoseInIt() {
    for (String around : AROUND) {
      RUNS.run("GO comes in, K0 goes out", "build seq(" + around.replace("X", "emit4") + ",emit3) -> 0; react 4 -> 28; over -> 1");
      String pause = around.replace("X", "pause");
      RUNS.run("RES comes in, K0 goes out", "build seq(" + pause + ",emit3) -> " + registersOf(pause), "react 4 -> 4; over -> 0; react 4 -> 12; over -> 1");
    }
  }

  private static int registersOf(String text) {
    int pauses = text.split("pause", -1).length - 1;
    return text.contains("loop") ? 2 * pauses : pauses;
  }

  private static void waitingGoesOut() {
    // The EXIT leaves the TRAP only beside a side that is known to wait.
    for (String around : AROUND) {
      String pause = around.replace("X", "pause");
      for (String sides : new String[] {"par(X,exit0)", "par(exit0,X)"}) {
        RUNS.run("K1 goes out", "build seq(trap(" + sides.replace("X", pause) + "),emit3) -> " + registersOf(pause), "react 4 -> 12; over -> 1; register 0 -> 0");
      }
    }
    RUNS.run("K1 goes out of a LOOP", "build seq(trap(par(loop(pause),seq(pause,pause,exit0))),emit3) -> 4; react 0 -> 0; react 0 -> 0; react 0 -> 8; over -> 1");
  }

  private static void selectedGoesOut() {
    // A side that is selected is not dead, so that the PARALLEL does not end with the other one.
    for (String around : AROUND) {
      String pauses = around.replace("X", "seq(pause,pause)");
      for (String sides : new String[] {"par(X,pause)", "par(pause,X)"}) {
        RUNS.run("SEL goes out", "build seq(" + sides.replace("X", pauses) + ",emit3) -> " + (1 + registersOf(pauses)),
            "react 4 -> 4; react 4 -> 4; over -> 0; react 4 -> 12; over -> 1");
      }
    }
  }

  private static void suspComesToThoseInIt() {
    for (String around : AROUND) {
      String pause = around.replace("X", "pause");
      RUNS.run("SUSP comes in, SEL goes out", "build seq(suspend0(" + pause + "),emit3) -> " + registersOf(pause),
          "react 4 -> 4; register 0 -> 1; react 5 -> 5; register 0 -> 1; over -> 0; react 5 -> 5; register 0 -> 1; react 4 -> 12; over -> 1");
    }
    RUNS.run("in the second copy of a LOOP", "build suspend0(loop(seq(pause,emit3))) -> 2; react 0 -> 0; react 0 -> 8; registers -> 01",
        "react 1 -> 1; registers -> 01; react 0 -> 8; registers -> 10; react 1 -> 1; registers -> 10");
  }

  private static void suspendedWaits() {
    // K1 is true while it is suspended: the EXIT beside it can leave the TRAP.
    for (String around : AROUND) {
      String pause = around.replace("X", "pause");
      for (String sides : new String[] {"par(suspend0(X),seq(pause,exit0))", "par(seq(pause,exit0),suspend0(X))"}) {
        RUNS.run("K1 is p's K1 | w", "build seq(trap(" + sides.replace("X", pause) + "),emit3) -> " + (1 + registersOf(pause)),
            "react 4 -> 4; react 5 -> 13; over -> 1; register 0 -> 0; register 1 -> 0");
      }
    }
    RUNS.run("K1 of a SUSPEND around a suspended one", "build seq(trap(par(suspend0(suspend1(pause)),seq(pause,exit0))),emit3) -> 2",
        "react 0 -> 0; react 2 -> 10; over -> 1; reset -> 2; react 0 -> 0; react 1 -> 9; over -> 1");
  }

  private static void killComesToThoseInIt() {
    for (String around : AROUND) {
      String pause = around.replace("X", "pause");
      String dead = "0".repeat(registersOf(pause));
      RUNS.run("KILL where it starts", "build seq(trap(par(" + pause + ",exit0)),pause) -> " + (1 + registersOf(pause)), "react 4 -> 4; registers -> " + dead + "1");
      RUNS.run("KILL where it goes on", "build seq(trap(par(" + around.replace("X", "seq(pause,pause)") + ",seq(pause,exit0))),pause) -> " + (2 + 2 * registersOf(pause)),
          "react 4 -> 4; register 0 -> 1; react 4 -> 4; registers -> " + dead + dead + "01; react 4 -> 4; over -> 1");
      RUNS.run("KILL where it is suspended", "build seq(trap(par(suspend0(" + pause + "),seq(pause,exit0))),pause) -> " + (2 + registersOf(pause)),
          "react 4 -> 4; register 0 -> 1; react 5 -> 5; registers -> " + dead + "01");
    }
  }

  private static void killComesFromFurtherOut() {
    for (int n = 0; n <= 3; n++) {
      String left = Programs.inTraps(n + 1, "par(pause,exit" + n + ")");
      RUNS.run("KILL | p's K2", "build seq(" + left + ",pause) -> 2; react 0 -> 0; registers -> 01");
      String through = Programs.inTraps(n, "seq(par(pause,exit" + n + "),emit4)");
      RUNS.run("KILL from an outer TRAP", "build seq(trap(par(seq(" + through + ",emit5),pause)),pause) -> 3; react 0 -> 0; registers -> 001");
    }
    RUNS.run("an inner TRAP beside the EXIT", "build seq(trap(par(trap(pause),exit0)),pause) -> 2; react 0 -> 0; registers -> 01");
  }

  private static void killStaysInItsTrap() {
    RUNS.run("not outside the TRAP", "build trap(seq(trap(exit0),pause)) -> 1; react 0 -> 0; register 0 -> 1; react 0 -> 0; over -> 1");
    RUNS.run("not beside the TRAP", "build par(trap(par(pause,exit0)),pause) -> 2; react 0 -> 0; registers -> 01; react 0 -> 0; over -> 1");
    RUNS.run("not by a greater code", "build trap(par(pause,trap(exit0))) -> 1; react 0 -> 0; register 0 -> 1");
    RUNS.run("not when the TRAP ends by itself", "build seq(trap(nothing),pause) -> 1; react 0 -> 0; register 0 -> 1");
    RUNS.run("not in the next instant", "build loop(trap(seq(pause,exit0))) -> 2; react 0 -> 0; registers -> 10; react 0 -> 0; registers -> 01; react 0 -> 0; registers -> 10");
  }

  private static void registersAfterwards() {
    RUNS.run("GO", "build pause -> 1; register 0 -> 0; react 0 -> 0; register 0 -> 1");
    RUNS.run("neither GO nor SUSP", "build seq(pause,pause) -> 2; react 0 -> 0; react 0 -> 0; registers -> 01; react 0 -> 0; registers -> 00");
    RUNS.run("SUSP & R", "build suspend0(par(pause,seq(nothing,seq(pause,pause)))) -> 3; react 0 -> 0; react 1 -> 1; registers -> 110; react 0 -> 0; registers -> 001",
        "react 1 -> 1; registers -> 001; react 0 -> 0; registers -> 000; over -> 1");
    RUNS.run("GO & KILL", "build seq(trap(par(pause,exit0)),pause) -> 2; react 0 -> 0; registers -> 01");
    RUNS.run("SUSP & R & KILL", "build seq(trap(par(suspend0(pause),seq(pause,exit0))),pause) -> 3; react 0 -> 0; registers -> 110; react 1 -> 1; registers -> 001");
  }

  private static void leastSolution() {
    RUNS.run("two solutions: none is taken", "build if3(emit3,nothing) -> 0; react 0 -> " + STATE, "unknown -> 1");
    RUNS.run("no solution", "build if3(nothing,emit3) -> 0; react 0 -> " + STATE, "unknown -> 1");
    RUNS.run("one solution, but only by guessing", "build if3(emit3,emit3) -> 0; react 0 -> " + STATE, "unknown -> 1");
    RUNS.run("what follows the question", "build seq(if3(nothing,nothing),emit3) -> 0; react 0 -> " + STATE, "unknown -> 1");
    RUNS.run("against the order of the copies", "build par(if7(emit3,nothing),if6(emit7,nothing),if5(emit6,nothing),if4(emit5,nothing),if0(emit4,nothing)) -> 0",
        "react 1 -> 249; reset -> 1; react 0 -> 0; over -> 1");
    RUNS.run("by not, against the order of the copies", "build par(if7(nothing,emit3),if6(nothing,emit7),if5(nothing,emit6),if4(nothing,emit5)) -> 0",
        "react 0 -> 160; over -> 1");
    // Where 6 is unknown it becomes known of one signal after the other that it can not be there.
    RUNS.run("to false alone, against the order of the copies",
        "build par(" + UNKNOWN + ",if6(par(if7(emit3,nothing),if5(emit7,nothing),if4(emit5,nothing)),nothing)) -> 0; react 0 -> " + STATE, "unknown -> 1");
    RUNS.run("round in a circle that is known", "build par(if3(emit4,nothing),par(if4(emit3,nothing),if0(emit3,nothing))) -> 0; react 1 -> 25; reset -> 1; react 0 -> " + STATE,
        "unknown -> 2");
  }

  private static void unknownThroughEachKind() {
    // Signal 3 is emitted in two unknown ways, of which one goes through the kind: unknown | unknown.
    String plain = "par(" + UNKNOWN + ",if6(emit3,nothing))";
    for (String around : AROUND) {
      RUNS.run("unknown comes in", "build par(" + plain + ",if6(" + around.replace("X", "emit3") + ",nothing)) -> 0; react 4 -> " + STATE, "unknown -> 2");
      String perhapsEnds = around.replace("X", "if6(nothing,pause)");
      RUNS.run("unknown goes out", "build par(" + plain + ",seq(" + perhapsEnds + ",emit3)) -> " + registersOf(perhapsEnds), "react 4 -> " + STATE, "unknown -> 2");
      RUNS.run("not unknown goes out", "build par(" + plain + ",seq(" + around.replace("X", "if6(pause,nothing)") + ",emit3)) -> " + registersOf(perhapsEnds),
          "react 4 -> " + STATE, "unknown -> 2");
    }
  }

  private static void unknownRoundALoop() {
    // Whether the body ends, and so whether it starts again and emits 3, is unknown without input 0.
    String built = "build par(" + UNKNOWN_EACH_TIME + ",loop(seq(emit3,pause,if0(nothing,if6(nothing,pause))))) -> 6; react 1 -> 9;";
    RUNS.run("from the first copy to the second", built, "react 0 -> " + STATE, "unknown -> 2; react 1 -> 9");
    RUNS.run("from the second copy to the first", built, "react 1 -> 9; react 0 -> " + STATE, "unknown -> 2; react 1 -> 9");
  }

  private static void unknownWhetherSuspended() {
    RUNS.run("RES & not s", "build par(" + UNKNOWN_EACH_TIME + ",suspend6(seq(pause,emit3))) -> 3; react 1 -> 1; react 0 -> " + STATE, "unknown -> 2; registers -> 101; react 1 -> 9");
    // It is not known to end and not known to wait, so that the EXIT beside it is not known to leave.
    RUNS.run("K1 | w", "build par(" + UNKNOWN_EACH_TIME + ",seq(trap(par(suspend6(pause),seq(pause,exit0))),emit4)) -> 4; react 1 -> 1; react 0 -> " + STATE,
        "unknown -> 3; registers -> 1011; react 1 -> 17; registers -> 0100");
  }

  private static void notConstructive() {
    ReactiveWires wires = RUNS.run("registers stay, it is not counted",
        "build par(seq(pause,emit4),seq(pause,if0(nothing," + UNKNOWN + "),pause)) -> 3; react 0 -> 0; registers -> 110; count 2 -> 1");
    for (int i = 1; i <= 3; i++) {
      RUNS.more("registers stay, it is not counted", wires, "react 0 -> " + STATE, "registers -> 110; count 2 -> 1; over -> 0; count 3 -> " + i);
    }
    RUNS.more("it goes on from there", wires, "react 1 -> 17; registers -> 001; count 2 -> 2; count 3 -> 3; react 0 -> 0; over -> 1; count 2 -> 3; reset -> 3");
    RUNS.run("suspended registers stay", "build par(suspend0(pause),seq(pause," + UNKNOWN + ")) -> 2; react 0 -> 0; react 1 -> " + STATE, "registers -> 11; react 0 -> " + STATE,
        "registers -> 11");
    RUNS.run("killed registers stay", "build seq(trap(par(loop(pause),seq(pause,par(exit0," + UNKNOWN + ")))),pause) -> 4; react 0 -> 0; react 0 -> " + STATE, "registers -> 1010");
    RUNS.run("a signal of it is not there later", "build seq(pause,par(emit3,if0(nothing," + UNKNOWN + ")),pause) -> 2; react 0 -> 0; react 0 -> " + STATE,
        "react 1 -> 9; react 0 -> 0; over -> 1");
  }

  private static void notConstructiveWithoutAnUnknownSignal() {
    RUNS.run("a LOCAL's signal is a wire, too", "build local6(" + UNKNOWN + ") -> 0; react 0 -> " + STATE, "unknown -> 0; count 3 -> 1; count 2 -> 0");
    // Whether the PAUSE's side starts again depends on itself, and no signal is in it at all.
    RUNS.run("a copy's wires alone", "build loop(par(pause,nothing)) -> 2; react 0 -> 0; registers -> 10; react 0 -> " + STATE, "unknown -> 0; registers -> 10; count 2 -> 1; count 3 -> 1");
    RUNS.run("wires of what does not start", "build if0(loop(par(pause,nothing)),nothing) -> 2; react 0 -> " + STATE, "unknown -> 0; count 2 -> 0; react 1 -> 1; registers -> 10");
  }

  private static void notConstructiveInTheFirstInstant() {
    RUNS.run("the first instant comes again", "build seq(emit3,if0(nothing," + UNKNOWN + "),pause,emit4) -> 1; react 0 -> " + STATE, "react 2 -> " + STATE,
        "count 2 -> 0; register 0 -> 0; react 1 -> 9; count 2 -> 1; register 0 -> 1; react 0 -> 16; over -> 1; count 3 -> 2");
    RUNS.run("reset behind it", "build if0(pause," + UNKNOWN + ") -> 1; react 0 -> " + STATE, "reset -> 0; react 1 -> 1; react 0 -> 0; over -> 1");
  }

  private static void over() {
    RUNS.run("in the first instant", "build nothing -> 0; over -> 0; react 0 -> 0; over -> 1");
    RUNS.run("in a later instant", "build seq(pause,pause) -> 2; react 0 -> 0; over -> 0; react 0 -> 0; over -> 0; react 0 -> 0; over -> 1");
    RUNS.run("by an EXIT", "build trap(par(loop(pause),seq(pause,exit0))) -> 3; react 0 -> 0; over -> 0; react 0 -> 0; over -> 1");
    RUNS.run("when both sides have ended", "build par(pause,seq(pause,pause)) -> 3; react 0 -> 0; react 0 -> 0; over -> 0; react 0 -> 0; over -> 1");
    RUNS.run("never", "build loop(pause) -> 2; react 0 -> 0; react 0 -> 0; react 0 -> 0; react 0 -> 0; over -> 0");
    RUNS.run("not while it is suspended", "build suspend0(pause) -> 1; react 0 -> 0; react 1 -> 1; over -> 0; react 1 -> 1; over -> 0; react 0 -> 0; over -> 1");
  }

  private static void nothingHappensOnceOver() {
    ReactiveWires wires = RUNS.run("over", "build seq(emit3,pause,par(emit3,emit4,emit5,emit6,emit7)) -> 1; react 0 -> 8; react 0 -> 248; over -> 1");
    for (int inputs = 0; inputs <= 7; inputs++) {
      RUNS.more("no signal but inputs", wires, "react " + inputs + " -> " + inputs + "; over -> 1; register 0 -> 0; count 2 -> " + (3 + inputs));
    }
    RUNS.more("a wrong input is still wrong", wires, "react 8 -> " + BAD, "react -1 -> " + BAD, "count 2 -> 10; over -> 1; count 1 -> 13");
    RUNS.more("until reset", wires, "reset -> 10; over -> 0; count 2 -> 0; react 1 -> 9; over -> 0; react 0 -> 248; over -> 1");
    RUNS.more("until built", wires, "build emit4 -> 0; over -> 0; react 0 -> 16; over -> 1; react 0 -> 0");
    RUNS.run("no instant is unknown any more", "build if0(nothing," + UNKNOWN + ") -> 0; react 0 -> " + STATE, "react 1 -> 1; over -> 1; react 0 -> 0; react 2 -> 2",
        "count 3 -> 1; count 2 -> 3; unknown -> 1; reset -> 3; react 0 -> " + STATE, "over -> 0; count 3 -> 2");
  }

  private static void notOverWhileNotConstructive() {
    // The root's K0 is true, but wires of the LOOP are unknown, and so nothing of the instant stands.
    RUNS.run("K0 of an instant that is not constructive", "build seq(emit3,par(if0(loop(par(pause,nothing)),nothing),nothing)) -> 2; react 0 -> " + STATE,
        "over -> 0; count 2 -> 0; unknown -> 0; registers -> 00; react 1 -> 9; over -> 0; registers -> 10");
  }
}
