/**
 * Promises 1 and 5 to 10, sentence by sentence: what every call answers while nothing is made or built, each
 * exception just inside and just outside its edge and at the greatest and least int, and what other calls answer
 * behind a refused one. The calls that make and build are looked at in StatementsTest and ProgramsTest.
 */
final class CallsTest {
  private static final String BAD = Runs.BAD;
  private static final String STATE = Runs.STATE;
  private static final String INDEX = Runs.INDEX;
  private static final String REFUSED = Runs.REFUSED;

  // Signal s is unknown where it starts.
  private static final String UNKNOWN_3 = "if3(emit3,nothing)";
  private static final String UNKNOWN_4 = "if4(emit4,nothing)";

  // Objects in each state in which calls may differ.
  private static final String[] STATES = {
      "",
      "make 1 0 0 0 -> 0;",
      "build loop(nothing) -> " + REFUSED + ";",
      "build seq(emit3,pause,emit4) -> 1;",
      "build seq(emit3,pause,emit4) -> 1; react 1 -> 9;",
      "build seq(emit3,pause,emit4) -> 1; react 1 -> 9; react 0 -> 16; over -> 1;",
      "build seq(emit3,pause,emit4) -> 1; react 1 -> 9; react 0 -> 16; react 0 -> 0; reset -> 3;",
      "build if0(pause," + UNKNOWN_3 + ") -> 1; react 0 -> " + STATE + "; unknown -> 1;",
      "build if0(pause," + UNKNOWN_3 + ") -> 1; react 1 -> 1; reset -> 1; react 0 -> " + STATE + "; react 1 -> 1;",
      "build " + Programs.pauses(60) + " -> 60; react 0 -> 0; register 59 -> 1;"};

  private static final Runs RUNS = new Runs();

  public static void main(String[] args) {
    newObject();
    newObjectsAreApart();
    statementsButNoProgram();
    refusedCallsLeaveANewObjectNew();
    reactWithWrongInputs();
    reactWithEachInput();
    reactWithoutAProgram();
    reactNotConstructive();
    unknownBeforeAny();
    unknownFromNoneToAll();
    unknownOfTheLatest();
    unknownStays();
    unknownBehindABuild();
    unknownWithoutLocals();
    resetWithoutAProgram();
    resetTellsTheInstants();
    resetIsTheBeginning();
    resetLeavesTheRest();
    registerOutside();
    registerOfTheProgramThatIsThere();
    overInEachState();
    countOutside();
    countStatements();
    countCopies();
    countInstants();
    countNotConstructive();
    asManyCallsAsPromised();
    RUNS.end();
  }

  private static void newObject() {
    RUNS.due("NONE", ReactiveWires.NONE, -1);
    RUNS.run("new: counts", "count 0 -> 0; count 1 -> 0; count 2 -> 0; count 3 -> 0");
    RUNS.run("new: unknown", "unknown -> 0");
    RUNS.run("new: over", "over -> 0");
    for (int i : new int[] {Integer.MIN_VALUE, -2, -1, 0, 1, 59, 60, Integer.MAX_VALUE}) {
      RUNS.run("new: no statement", "can " + i + " -> " + INDEX, "build " + i + " -> " + INDEX);
      RUNS.run("new: no register", "register " + i + " -> " + INDEX);
    }
    for (int inputs = 0; inputs <= 7; inputs++) {
      RUNS.run("new: no program", "react " + inputs + " -> " + STATE);
    }
    RUNS.run("new: no program", "reset -> " + STATE);
    RUNS.run("new: the first statement", "make 1 0 0 0 -> 0; count 0 -> 1");
  }

  private static void newObjectsAreApart() {
    ReactiveWires one = RUNS.run("apart", "build seq(emit3,pause," + UNKNOWN_3 + ") -> 1; react 0 -> 8; react 0 -> " + STATE);
    ReactiveWires other = RUNS.run("apart", "count 0 -> 0; count 1 -> 0; count 2 -> 0; count 3 -> 0; unknown -> 0; register 0 -> " + INDEX, "build pause -> 1; react 0 -> 0; react 0 -> 0; over -> 1");
    RUNS.more("apart", one, "over -> 0; register 0 -> 1; count 0 -> 6; count 1 -> 7; count 2 -> 1; count 3 -> 1; unknown -> 1");
    RUNS.more("apart", other, "count 0 -> 1; count 1 -> 1; count 2 -> 2; count 3 -> 0; unknown -> 0");
  }

  private static void statementsButNoProgram() {
    RUNS.run("a statement is no program", "make 1 0 0 0 -> 0; count 0 -> 1; count 1 -> 0; count 2 -> 0; count 3 -> 0; unknown -> 0; over -> 0",
        "register 0 -> " + INDEX, "react 0 -> " + STATE, "reset -> " + STATE, "build 1 -> " + INDEX, "can 1 -> " + INDEX, "build 0 -> 1; react 0 -> 0");
  }

  private static void refusedCallsLeaveANewObjectNew() {
    RUNS.refused("new", "", STATE, "react 0", "react 7", "reset");
    RUNS.refused("new", "", INDEX, "can 0", "can -1", "build 0", "build -1", "register 0", "register -1", "count 4", "count -1");
    RUNS.refused("new", "", BAD, "react 8", "react -1", "make 11 0 0 0", "make -1 0 0 0", "make 2 2 0 0", "make 5 0 0 0", "make 10 4 0 0");
    RUNS.run("new: behind all of them", "react 0 -> " + STATE, "reset -> " + STATE, "can 0 -> " + INDEX, "build 0 -> " + INDEX, "make 5 0 0 0 -> " + BAD,
        "make 1 0 0 0 -> 0; build 0 -> 1; react 5 -> 5; register 0 -> 1; count 2 -> 1; count 3 -> 0");
  }

  private static void reactWithWrongInputs() {
    // It is named before the missing program, and so it goes before it.
    for (String state : STATES) {
      RUNS.refused("inputs not 0 .. 7", state, BAD, "react -1", "react 8", "react 9", "react 15", "react 16", "react 256",
          "react -8", "react 2147483647", "react -2147483648");
    }
  }

  private static void reactWithEachInput() {
    for (int inputs = 0; inputs <= 7; inputs++) {
      RUNS.run("inputs 0 .. 7", "build par(if0(emit3,nothing),if1(emit4,nothing),if2(emit5,nothing)) -> 0; react " + inputs + " -> " + (inputs | inputs << 3),
          "over -> 1; react " + inputs + " -> " + inputs);
    }
  }

  private static void reactWithoutAProgram() {
    RUNS.refused("no program", "", STATE, "react 0", "react 7");
    RUNS.refused("no program", "make 1 0 0 0 -> 0; make 5 0 0 0 -> 1;", STATE, "react 0", "react 7");
    RUNS.refused("a refused build makes none", "build loop(nothing) -> " + REFUSED + "; build exit0 -> " + REFUSED, STATE, "react 0", "react 7");
    RUNS.run("it is no instant that is not constructive", "react 0 -> " + STATE, "count 3 -> 0; unknown -> 0");
  }

  private static void reactNotConstructive() {
    RUNS.run("it changes two numbers alone", "build par(loop(seq(emit3,pause)),seq(pause,if0(nothing," + UNKNOWN_4 + "))) -> 3; react 0 -> 8; registers -> 101",
        "react 0 -> " + STATE, "registers -> 101; over -> 0; count 0 -> 10; count 1 -> 15; count 2 -> 1; count 3 -> 1; unknown -> 1",
        "react 1 -> 9; registers -> 010; count 2 -> 2; count 3 -> 1; unknown -> 1");
  }

  private static void unknownBeforeAny() {
    RUNS.run("0 when there was none", "unknown -> 0; make 1 0 0 0 -> 0; unknown -> 0; build 0 -> 1; unknown -> 0; react 0 -> 0; unknown -> 0",
        "react 0 -> 0; over -> 1; unknown -> 0; react 8 -> " + BAD, "unknown -> 0; reset -> 2; unknown -> 0");
  }

  private static void unknownFromNoneToAll() {
    StringBuilder sides = new StringBuilder("nothing");
    for (int s = 3; s <= 7; s++) {
      sides.append(",if").append(s).append("(emit").append(s).append(",nothing)");
      RUNS.run("so many unknown", "build par(" + sides + ") -> 0; react 7 -> " + STATE, "unknown -> " + (s - 2));
      RUNS.run("each signal counts", "build if" + s + "(emit" + s + ",nothing) -> 0; react 0 -> " + STATE, "unknown -> 1; react 7 -> " + STATE, "unknown -> 1");
    }
    RUNS.run("a signal that is known does not count", "build par(emit5," + UNKNOWN_3 + ",if5(emit6,nothing),if4(emit7,nothing)) -> 0; react 0 -> " + STATE, "unknown -> 1");
    RUNS.run("one signal counts once", "build par(" + UNKNOWN_3 + ",if3(emit3,nothing),if3(nothing,emit3)) -> 0; react 0 -> " + STATE, "unknown -> 1");
  }

  private static void unknownOfTheLatest() {
    RUNS.run("the latest", "build if0(if1(par(" + UNKNOWN_3 + "," + UNKNOWN_4 + ")," + UNKNOWN_3 + "),local3(" + UNKNOWN_3 + ")) -> 0; react 3 -> " + STATE, "unknown -> 2",
        "react 1 -> " + STATE, "unknown -> 1; react 3 -> " + STATE, "unknown -> 2; react 0 -> " + STATE, "unknown -> 0; react 1 -> " + STATE, "unknown -> 1");
  }

  private static void unknownStays() {
    RUNS.run("behind other instants", "build if0(seq(pause,pause)," + UNKNOWN_3 + ") -> 2; react 0 -> " + STATE, "unknown -> 1; react 1 -> 1; unknown -> 1",
        "react 0 -> 0; unknown -> 1; react 0 -> 0; over -> 1; unknown -> 1; react 0 -> 0; unknown -> 1");
    RUNS.run("behind a reset, of which it is not told", "build if0(pause," + UNKNOWN_3 + ") -> 1; react 0 -> " + STATE, "reset -> 0; unknown -> 1; react 1 -> 1; reset -> 1; unknown -> 1");
    RUNS.run("behind refused calls", "build if0(pause," + UNKNOWN_3 + ") -> 1; react 0 -> " + STATE, "react 8 -> " + BAD, "unknown -> 1; register 1 -> " + INDEX,
        "count 4 -> " + INDEX, "can -1 -> " + INDEX, "make 11 0 0 0 -> " + BAD, "unknown -> 1; build -1 -> " + INDEX, "unknown -> 1; build loop(nothing) -> " + REFUSED, "unknown -> 1");
  }

  private static void unknownBehindABuild() {
    RUNS.run("0 behind a build", "build par(" + UNKNOWN_3 + "," + UNKNOWN_4 + ") -> 0; react 0 -> " + STATE, "unknown -> 2; build pause -> 1; unknown -> 0; react 0 -> 0; unknown -> 0; count 3 -> 1");
    RUNS.run("0 behind a build of the same", "build " + UNKNOWN_3 + " -> 0; react 0 -> " + STATE, "unknown -> 1; build " + UNKNOWN_3 + " -> 0; unknown -> 0; react 0 -> " + STATE,
        "unknown -> 1; count 3 -> 2");
  }

  private static void unknownWithoutLocals() {
    RUNS.run("not those of LOCALS", "build local3(" + UNKNOWN_3 + ") -> 0; react 0 -> " + STATE, "unknown -> 0; count 3 -> 1");
    RUNS.run("not those of LOCALS", "build par(local3(" + UNKNOWN_3 + ")," + UNKNOWN_3 + ") -> 0; react 0 -> " + STATE, "unknown -> 1");
    RUNS.run("but one that hangs on a LOCAL's", "build local3(par(" + UNKNOWN_3 + ",if3(emit4,nothing))) -> 0; react 0 -> " + STATE, "unknown -> 1");
  }

  private static void resetWithoutAProgram() {
    RUNS.refused("no program", "", STATE, "reset");
    RUNS.refused("no program", "make 1 0 0 0 -> 0; react 0 -> " + STATE, STATE, "reset");
    RUNS.refused("a refused build makes none", "build exit0 -> " + REFUSED, STATE, "reset");
  }

  private static void resetTellsTheInstants() {
    ReactiveWires wires = RUNS.run("so many instants", "build loop(seq(emit3,pause)) -> 2; reset -> 0; reset -> 0");
    for (int instants = 1; instants <= 20; instants++) {
      for (int i = 0; i < instants; i++) {
        RUNS.more("so many instants", wires, "react 0 -> 8");
      }
      RUNS.more("so many instants", wires, "reset -> " + instants + "; reset -> 0");
    }
    RUNS.run("with those once it was over", "build nothing -> 0; react 0 -> 0; over -> 1; react 0 -> 0; react 7 -> 7; reset -> 3; reset -> 0");
    RUNS.run("without those that were not", "build if0(pause," + UNKNOWN_3 + ") -> 1; react 0 -> " + STATE, "react 8 -> " + BAD, "reset -> 0; react 0 -> " + STATE,
        "react 1 -> 1; react 0 -> 0; reset -> 2");
    RUNS.run("since it was last at its beginning", "build pause -> 1; react 0 -> 0; react 0 -> 0; build pause -> 1; reset -> 0; react 0 -> 0; build pause -> 1; react 0 -> 0; reset -> 1");
  }

  private static void resetIsTheBeginning() {
    RUNS.run("registers", "build par(pause,suspend0(seq(pause,pause))) -> 3; react 0 -> 0; registers -> 110; reset -> 1; registers -> 000; react 0 -> 0; registers -> 110");
    RUNS.run("GO and RES", "build seq(emit3,pause,emit4,pause) -> 2; react 0 -> 8; react 0 -> 16; reset -> 2; react 0 -> 8; react 0 -> 16; react 0 -> 0; over -> 1");
    RUNS.run("over", "build emit3 -> 0; react 0 -> 8; over -> 1; react 0 -> 0; reset -> 2; over -> 0; count 2 -> 0; react 0 -> 8; over -> 1");
    RUNS.run("suspended", "build suspend0(seq(pause,emit3)) -> 1; react 0 -> 0; react 1 -> 1; reset -> 2; registers -> 0; react 1 -> 1; registers -> 1; react 0 -> 8");
  }

  private static void resetLeavesTheRest() {
    RUNS.run("statements, copies, what was not constructive", "build if0(pause," + UNKNOWN_3 + ") -> 1; count 0 -> 5; count 1 -> 5; react 0 -> " + STATE,
        "reset -> 0; count 0 -> 5; count 1 -> 5; count 2 -> 0; count 3 -> 1; can 0 -> 2; make 1 0 0 0 -> 5");
  }

  private static void registerOutside() {
    for (int registers : new int[] {1, 2, 59, 60}) {
      String built = "build " + Programs.pauses(registers) + " -> " + registers + "; react 0 -> 0;";
      RUNS.run("the first and the last", built, "register 0 -> 1; register " + (registers - 1) + " -> 1");
      RUNS.refused("there is none", built, INDEX, "register -1", "register -2", "register " + registers, "register 60", "register 61",
          "register 2147483647", "register -2147483648");
    }
    for (String none : new String[] {"", "make 1 0 0 0 -> 0", "build emit3 -> 0; react 0 -> 8", "build loop(nothing) -> " + REFUSED}) {
      RUNS.refused("no register at all", none, INDEX, "register -1", "register 0", "register 1", "register 59", "register 60",
          "register 2147483647", "register -2147483648");
    }
  }

  private static void registerOfTheProgramThatIsThere() {
    RUNS.run("of the program before", "build " + Programs.pauses(3) + " -> 3; react 0 -> 0; registers -> 111; build pause -> 1; register 0 -> 0; register 1 -> " + INDEX,
        "react 0 -> 0; register 0 -> 1; build nothing -> 0; register 0 -> " + INDEX, "build " + Programs.pauses(3) + " -> 3; registers -> 000");
    RUNS.run("at its beginning", "build pause -> 1; register 0 -> 0; react 0 -> 0; register 0 -> 1; react 0 -> 0; register 0 -> 0; over -> 1; react 0 -> 0; register 0 -> 0");
  }

  private static void overInEachState() {
    int[] due = {0, 0, 0, 0, 0, 1, 0, 0, 0, 0};
    for (int i = 0; i < STATES.length; i++) {
      RUNS.run("over", STATES[i], "over -> " + due[i] + "; over -> " + due[i]);
    }
    RUNS.run("over stays behind refused calls", STATES[5], "react 8 -> " + BAD, "over -> 1; build -1 -> " + INDEX, "over -> 1; build exit0 -> " + REFUSED, "over -> 1; make 11 0 0 0 -> " + BAD,
        "over -> 1; reset -> 2; over -> 0");
  }

  private static void countOutside() {
    for (String state : STATES) {
      RUNS.refused("another what", state, INDEX, "count -1", "count 4", "count 5", "count 2147483647", "count -2147483648");
    }
  }

  private static void countStatements() {
    ReactiveWires wires = RUNS.run("statements", "count 0 -> 0");
    for (int made = 0; made < 60; made++) {
      RUNS.more("statements", wires, "make 1 0 0 0 -> " + made + "; count 0 -> " + (made + 1) + "; make 5 60 0 0 -> " + BAD, "count 0 -> " + (made + 1));
    }
    RUNS.more("statements", wires, "make 1 0 0 0 -> " + STATE, "count 0 -> 60; build 59 -> 1; count 0 -> 60; react 0 -> 0; reset -> 1; count 0 -> 60");
  }

  private static void countCopies() {
    RUNS.run("copies", "count 1 -> 0; make 1 0 0 0 -> 0; count 1 -> 0; build 0 -> 1; count 1 -> 1; build loop(pause) -> 2; count 1 -> 3; react 0 -> 0; count 1 -> 3",
        "reset -> 1; count 1 -> 3; build loop(nothing) -> " + REFUSED, "count 1 -> 3; build " + Programs.copies(300) + " -> 0; count 1 -> 300; build nothing -> 0; count 1 -> 1");
  }

  private static void countInstants() {
    RUNS.run("instants", "count 2 -> 0; build seq(pause,if0(nothing," + UNKNOWN_3 + ")) -> 1; count 2 -> 0; react 0 -> 0; count 2 -> 1; react 0 -> " + STATE, "count 2 -> 1; react 8 -> " + BAD,
        "count 2 -> 1; react 1 -> 1; count 2 -> 2; over -> 1; react 0 -> 0; count 2 -> 3; build loop(nothing) -> " + REFUSED, "count 2 -> 3; reset -> 3; count 2 -> 0",
        "react 0 -> 0; count 2 -> 1; build pause -> 1; count 2 -> 0");
  }

  private static void countNotConstructive() {
    RUNS.run("in all", "count 3 -> 0; react 0 -> " + STATE, "count 3 -> 0; build " + UNKNOWN_3 + " -> 0; count 3 -> 0; react 0 -> " + STATE, "count 3 -> 1; react 8 -> " + BAD,
        "count 3 -> 1; react 7 -> " + STATE, "count 3 -> 2; reset -> 0; count 3 -> 2; build pause -> 1; count 3 -> 2; react 0 -> 0; count 3 -> 2; build " + UNKNOWN_3 + " -> 0; react 0 -> " + STATE,
        "count 3 -> 3; build exit0 -> " + REFUSED, "count 3 -> 3; reset -> 0; count 3 -> 3");
  }

  private static void asManyCallsAsPromised() {
    // Three calls make and build, one tells at the end: 512 in all.
    ReactiveWires instants = RUNS.run("512 calls", "make 1 0 0 0 -> 0; make 5 0 0 0 -> 1; build 1 -> 2");
    ReactiveWires ended = RUNS.run("512 calls", "make 0 0 0 0 -> 0; make 9 0 0 0 -> 1; build 1 -> 0");
    for (int i = 0; i < 508; i++) {
      RUNS.more("512 calls", instants, "react " + i % 8 + " -> " + i % 8);
      RUNS.more("512 calls", ended, "react " + i % 8 + " -> " + i % 8);
    }
    RUNS.more("512 calls", instants, "reset -> 508");
    RUNS.more("512 calls", ended, "count 2 -> 508");
    ReactiveWires unknown = RUNS.run("512 calls", "make 2 3 0 0 -> 0; make 6 3 0 0 -> 1; build 1 -> 0");
    for (int i = 0; i < 508; i++) {
      RUNS.more("512 calls", unknown, "react " + i % 8 + " -> " + STATE);
    }
    RUNS.more("512 calls", unknown, "count 3 -> 508");
  }
}
