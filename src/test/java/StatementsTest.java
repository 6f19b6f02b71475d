/**
 * The first two paragraphs of "Terms" with promises 2 and 3, sentence by sentence: how many statements, how
 * deep, which signals and kinds, what each kind needs, and the codes that each can answer.
 */
final class StatementsTest {
  private static final String BAD = Runs.BAD;
  private static final String STATE = Runs.STATE;
  private static final String INDEX = Runs.INDEX;
  private static final int LEAST = Integer.MIN_VALUE;
  private static final int GREATEST = Integer.MAX_VALUE;

  // What stands for a statement that is put in, in a call for each place in which one can be.
  private static final String[] PLACES = {
      "make 3 P 0 0", "make 3 0 P 0", "make 4 P 0 0", "make 4 0 P 0", "make 5 P 0 0", "make 6 0 P 0", "make 6 0 0 P",
      "make 7 0 P 0", "make 8 3 P 0", "make 9 P 0 0"};

  // One of each kind, with statement 0 wherever one is needed.
  private static final String[] ONE_OF_EACH = {
      "make 0 0 0 0", "make 1 0 0 0", "make 2 3 0 0", "make 3 0 0 0", "make 4 0 0 0", "make 5 0 0 0", "make 6 0 0 0",
      "make 7 0 0 0", "make 8 3 0 0", "make 9 0 0 0", "make 10 0 0 0"};

  // It can answer each of the six codes.
  private static final String ALL = "if0(if0(nothing,pause),if0(if0(exit0,exit1),if0(exit2,exit3)))";

  private static final Runs RUNS = new Runs();

  public static void main(String[] args) {
    numberedFromZeroInOrder();
    atMostSixty();
    madeBefore();
    noneMadeAtAll();
    oneMayBeInSeveral();
    atMostTwentyDeep();
    oneDeeperThanTheDeepest();
    leavesAreNeverTooDeep();
    kindsFromZeroToTen();
    signalsFromZeroToSeven();
    emitAndLocalTakeNoInput();
    exitsFromZeroToThree();
    whatIsNotNeededIsNotLookedAt();
    whereThePartsStand();
    wrongWhenFullOrTooDeep();
    canOfLeaves();
    canOfSequence();
    canOfParallel();
    canOfLoop();
    canOfPresent();
    canOfSuspendAndLocal();
    canOfTrap();
    canWithTheGreatestCode();
    canLooksAtTheStartAlone();
    noSuchStatement();
    RUNS.end();
  }

  /** So many PAUSES, which are statements 0, 1, and so on. */
  private static String pauses(int n) {
    StringBuilder rows = new StringBuilder();
    for (int made = 0; made < n; made++) {
      rows.append("make 1 0 0 0 -> ").append(made).append(';');
    }
    return rows.toString();
  }

  /** A PAUSE and TRAPS around it: statement i lies i + 1 deep. */
  private static String depths(int n) {
    StringBuilder rows = new StringBuilder("make 1 0 0 0 -> 0;");
    for (int made = 1; made < n; made++) {
      rows.append("make 9 ").append(made - 1).append(" 0 0 -> ").append(made).append(';');
    }
    return rows.toString();
  }

  private static void numberedFromZeroInOrder() {
    for (String first : new String[] {"make 0 0 0 0", "make 1 0 0 0", "make 2 7 0 0", "make 10 3 0 0"}) {
      RUNS.run("numbered from 0", first + " -> 0; count 0 -> 1; make 9 0 0 0 -> 1; make 4 1 0 0 -> 2; count 0 -> 3");
    }
    RUNS.run("a refused one takes no number", "make 1 0 0 0 -> 0; make 11 0 0 0 -> " + BAD,
        "make 1 0 0 0 -> 1; make 5 2 0 0 -> " + BAD, "make 5 1 0 0 -> 2; can 2 -> 2; can 3 -> " + INDEX);
  }

  private static void atMostSixty() {
    for (String last : ONE_OF_EACH) {
      ReactiveWires wires = RUNS.run("the 60th", pauses(59), last + " -> 59; count 0 -> 60");
      for (String over : ONE_OF_EACH) {
        RUNS.more("the 61st", wires, over + " -> " + STATE);
      }
      RUNS.more("still 60", wires, "count 0 -> 60; can 58 -> 2; can 60 -> " + INDEX, "build 58 -> 1; build 60 -> " + INDEX);
    }
    RUNS.refused("the 61st", pauses(60) + "build 59 -> 1; react 1 -> 1", STATE, ONE_OF_EACH);
  }

  private static void madeBefore() {
    for (String place : PLACES) {
      RUNS.run("made just before", pauses(7), place.replace("P", "6") + " -> 7");
      for (int p : new int[] {LEAST, -2, -1, 7, 8, 59, 60, 61, GREATEST}) {
        RUNS.refused("not made before", pauses(7) + "build 3 -> 1; react 0 -> 0", BAD, place.replace("P", "" + p));
      }
      RUNS.run("NONE is no statement", pauses(1), place.replace("P", "" + ReactiveWires.NONE) + " -> " + BAD);
    }
  }

  private static void noneMadeAtAll() {
    for (String place : PLACES) {
      for (int p : new int[] {LEAST, -1, 0, 1, GREATEST}) {
        RUNS.run("in an empty object", place.replace("P", "" + p) + " -> " + BAD, "count 0 -> 0; make 0 0 0 0 -> 0");
      }
    }
  }

  private static void oneMayBeInSeveral() {
    RUNS.run("twice in one", "make 2 3 0 0 -> 0; make 3 0 0 0 -> 1; make 4 0 0 0 -> 2; make 6 0 0 0 -> 3",
        "build 1 -> 0; count 1 -> 3; build 2 -> 0; count 1 -> 3; build 3 -> 0; count 1 -> 3; react 0 -> 8");
    RUNS.run("in several", "make 1 0 0 0 -> 0; make 5 0 0 0 -> 1; make 9 0 0 0 -> 2; make 3 0 2 0 -> 3; make 4 1 3 0 -> 4",
        "build 1 -> 2; build 2 -> 1; build 3 -> 2; build 4 -> 4; build 0 -> 1");
  }

  private static void atMostTwentyDeep() {
    for (String place : PLACES) {
      RUNS.run("20 deep", depths(20), place.replace("P", "18") + " -> 20; count 0 -> 21");
      RUNS.refused("21 deep", depths(20) + "build 19 -> 1; count 1 -> 20; react 2 -> 2", STATE, place.replace("P", "19"));
    }
  }

  private static void oneDeeperThanTheDeepest() {
    // 9 lies 10 deep and 14 lies 15 deep, so that a pair of them lies 16 deep, and four more may be put around.
    for (String pair : new String[] {"make 3 9 14 0", "make 3 14 9 0", "make 4 9 14 0", "make 4 14 9 0",
        "make 6 0 9 14", "make 6 0 14 9"}) {
      RUNS.run("one more than the deepest", depths(15), pair + " -> 15",
          "make 9 15 0 0 -> 16; make 8 3 16 0 -> 17; make 7 0 17 0 -> 18; make 3 0 18 0 -> 19; make 9 19 0 0 -> " + STATE,
          "make 4 19 0 0 -> " + STATE, "make 9 18 0 0 -> 20");
    }
    RUNS.run("a LOOP is one deeper, too", depths(18),
        "make 5 17 0 0 -> 18; make 5 18 0 0 -> 19; make 5 19 0 0 -> " + STATE, "make 5 18 0 0 -> 20");
  }

  private static void leavesAreNeverTooDeep() {
    RUNS.run("a leaf is 1 deep", depths(20), "make 0 19 19 19 -> 20; make 1 19 19 19 -> 21; make 2 3 19 19 -> 22",
        "make 10 0 19 19 -> 23; make 9 23 19 19 -> 24; make 8 3 0 19 -> 25; make 5 0 19 19 -> 26; make 3 0 0 19 -> 27");
  }

  private static void kindsFromZeroToTen() {
    ReactiveWires wires = RUNS.run("kinds", "make 1 0 0 0 -> 0");
    for (int kind = 0; kind <= 10; kind++) {
      RUNS.more("kinds", wires, ONE_OF_EACH[kind] + " -> " + (kind + 1));
    }
    for (int kind : new int[] {LEAST, LEAST + 1, -2, -1, 11, 12, 256, GREATEST - 1, GREATEST}) {
      RUNS.refused("no such kind", pauses(1), BAD, "make " + kind + " 0 0 0", "make " + kind + " 3 0 0");
    }
  }

  private static void signalsFromZeroToSeven() {
    for (int s = 0; s <= 7; s++) {
      RUNS.run("signals", "make 1 0 0 0 -> 0; make 6 " + s + " 0 0 -> 1; make 7 " + s + " 0 0 -> 2");
    }
    for (int s : new int[] {LEAST, -1, 8, 9, 256, GREATEST}) {
      RUNS.refused("no such signal", pauses(1), BAD, "make 2 " + s + " 0 0", "make 6 " + s + " 0 0",
          "make 7 " + s + " 0 0", "make 8 " + s + " 0 0");
    }
  }

  private static void emitAndLocalTakeNoInput() {
    for (int s = 0; s <= 2; s++) {
      RUNS.refused("an input where it must not be", pauses(1), BAD, "make 2 " + s + " 0 0", "make 8 " + s + " 0 0");
    }
    for (int s = 3; s <= 7; s++) {
      RUNS.run("not an input", "make 2 " + s + " 0 0 -> 0; make 8 " + s + " 0 0 -> 1",
          "build 0 -> 0; react 0 -> " + (1 << s), "build 1 -> 0; react 7 -> 7");
    }
  }

  private static void exitsFromZeroToThree() {
    for (int n = 0; n <= 3; n++) {
      RUNS.run("EXIT", "make 10 " + n + " 0 0 -> 0; can 0 -> " + (4 << n));
    }
    for (int n : new int[] {LEAST, -1, 4, 5, 32, GREATEST}) {
      RUNS.refused("no such EXIT", pauses(1), BAD, "make 10 " + n + " 0 0");
    }
  }

  private static void whatIsNotNeededIsNotLookedAt() {
    String[] needed = {"make 0 X X X", "make 1 X X X", "make 2 3 X X", "make 3 0 0 X", "make 4 0 0 X", "make 5 0 X X",
        "make 6 0 0 0", "make 7 0 0 X", "make 8 3 0 X", "make 9 0 X X", "make 10 0 X X"};
    for (String call : needed) {
      for (int x : new int[] {LEAST, -1, 1, 8, 11, 60, GREATEST}) {
        RUNS.run("not looked at", pauses(1), call.replace("X", "" + x) + " -> 1");
      }
    }
    RUNS.run("not looked at in an empty object", "make 0 -1 -1 -1 -> 0");
    RUNS.run("not looked at in an empty object", "make 10 3 99 99 -> 0");
  }

  private static void whereThePartsStand() {
    // 0 NOTHING, 1 PAUSE, 2 EXIT 0: what each can answer tells which of them was taken.
    String leaves = "make 0 0 0 0 -> 0; make 1 0 0 0 -> 1; make 10 0 0 0 -> 2; make 5 0 0 0 -> 3;";
    RUNS.run("p is a, q is b", leaves, "make 3 0 1 2 -> 4; can 4 -> 2; make 3 2 1 0 -> 5; can 5 -> 4",
        "make 4 0 1 2 -> 6; can 6 -> 2; make 4 2 1 0 -> 7; can 7 -> 4; make 5 1 2 0 -> 8; can 8 -> 2; make 9 1 2 0 -> 9; can 9 -> 2");
    RUNS.run("a is the signal, p is b, q is c", leaves, "make 6 3 1 2 -> 4; can 4 -> 6; make 6 3 0 1 -> 5; can 5 -> 3",
        "make 7 2 1 0 -> 6; can 6 -> 2; make 8 3 2 1 -> 7; can 7 -> 4");
    RUNS.run("which is asked for", leaves, "build if1(emit3,emit4) -> 0; react 2 -> 10; reset -> 1; react 5 -> 21");
  }

  private static void wrongWhenFullOrTooDeep() {
    // The document names the wrong argument first.
    RUNS.refused("wrong and full", pauses(60), BAD, "make 11 0 0 0", "make -1 0 0 0", "make 2 2 0 0", "make 2 8 0 0",
        "make 8 0 0 0", "make 6 8 0 0", "make 7 -1 0 0", "make 10 4 0 0", "make 5 60 0 0", "make 3 0 60 0", "make 6 0 0 -1");
    RUNS.refused("wrong and too deep", depths(20), BAD, "make 3 19 20 0", "make 4 -1 19 0", "make 6 8 19 19",
        "make 6 0 19 20", "make 7 8 19 0", "make 8 2 19 0");
  }

  private static void canOfLeaves() {
    RUNS.run("can: leaves", "can nothing -> 1; can emit3 -> 1; can emit7 -> 1; can pause -> 2",
        "can exit0 -> 4; can exit1 -> 8; can exit2 -> 16; can exit3 -> 32");
  }

  private static void canOfSequence() {
    RUNS.run("can: SEQUENCE, p can not end", "can seq(pause,nothing) -> 2; can seq(pause,exit3) -> 2; can seq(exit0,pause) -> 4",
        "can seq(exit3,nothing) -> 32; can seq(if0(pause,exit1),nothing) -> 10; can seq(loop(nothing),pause) -> 0");
    RUNS.run("can: SEQUENCE, p can end", "can seq(nothing,nothing) -> 1; can seq(nothing,pause) -> 2; can seq(emit3,exit3) -> 32",
        "can seq(if0(nothing,pause),exit3) -> 34; can seq(if0(nothing,exit1),nothing) -> 9",
        "can seq(if0(nothing,exit1),pause) -> 10; can seq(if0(nothing,pause),if1(nothing,exit0)) -> 7",
        "can seq(nothing,loop(nothing)) -> 0; can seq(if0(nothing,pause),loop(nothing)) -> 2");
  }

  private static void canOfParallel() {
    String[] leaves = {"nothing", "pause", "exit0", "exit1", "exit2", "exit3"};
    ReactiveWires wires = new ReactiveWires();
    for (int i = 0; i < 6; i++) {
      for (int j = 0; j < 6; j++) {
        RUNS.more("can: the greater one", wires, "can par(" + leaves[i] + "," + leaves[j] + ") -> " + (1 << Math.max(i, j)));
      }
    }
    RUNS.run("can: each with each", "can par(if0(nothing,exit1),if1(pause,exit0)) -> 14",
        "can par(if1(pause,exit0),if0(nothing,exit1)) -> 14; can par(if0(pause,exit2),exit0) -> 20",
        "can par(exit0,if0(pause,exit2)) -> 20; can par(if0(nothing,pause),if0(nothing,pause)) -> 3",
        "can par(if0(nothing,exit3),nothing) -> 33; can par(if0(nothing,exit3),pause) -> 34");
    RUNS.run("can: nothing with an empty set", "can par(loop(nothing),nothing) -> 0; can par(nothing,loop(nothing)) -> 0",
        "can par(loop(nothing),exit3) -> 0; can par(exit3,loop(nothing)) -> 0; can par(loop(nothing),loop(nothing)) -> 0");
    RUNS.run("can: all codes", "can par(" + ALL + "," + ALL + ") -> 63; can par(" + ALL + ",nothing) -> 63",
        "can par(nothing," + ALL + ") -> 63; can par(" + ALL + ",pause) -> 62; can par(pause," + ALL + ") -> 62",
        "can par(" + ALL + ",exit0) -> 60; can par(exit1," + ALL + ") -> 56; can par(" + ALL + ",exit2) -> 48",
        "can par(exit3," + ALL + ") -> 32");
  }

  private static void canOfLoop() {
    RUNS.run("can: LOOP", "can loop(pause) -> 2; can loop(nothing) -> 0; can loop(emit3) -> 0; can loop(exit3) -> 32",
        "can loop(if0(nothing,exit3)) -> 32; can loop(if0(nothing,pause)) -> 2; can loop(loop(nothing)) -> 0",
        "can loop(" + ALL + ") -> 62");
  }

  private static void canOfPresent() {
    RUNS.run("can: PRESENT", "can if0(nothing,nothing) -> 1; can if0(pause,pause) -> 2; can if0(nothing,pause) -> 3",
        "can if7(pause,nothing) -> 3; can if0(exit3,nothing) -> 33; can if0(nothing,exit3) -> 33",
        "can if0(loop(nothing),pause) -> 2; can if0(pause,loop(nothing)) -> 2; can if0(loop(nothing),loop(nothing)) -> 0",
        "can " + ALL + " -> 63");
  }

  private static void canOfSuspendAndLocal() {
    // That a SUSPEND can wait while it is suspended is not in it: it is not so where it starts.
    RUNS.run("can: SUSPEND", "can suspend0(nothing) -> 1; can suspend7(pause) -> 2; can suspend0(exit3) -> 32",
        "can suspend0(if1(nothing,exit0)) -> 5; can suspend0(loop(nothing)) -> 0; can suspend0(" + ALL + ") -> 63");
    RUNS.run("can: LOCAL", "can local3(nothing) -> 1; can local7(pause) -> 2; can local3(exit3) -> 32",
        "can local3(if3(nothing,exit0)) -> 5; can local3(loop(nothing)) -> 0; can local3(" + ALL + ") -> 63");
  }

  private static void canOfTrap() {
    RUNS.run("can: TRAP", "can trap(nothing) -> 1; can trap(pause) -> 2; can trap(exit0) -> 1; can trap(exit1) -> 4",
        "can trap(exit2) -> 8; can trap(exit3) -> 16; can trap(loop(nothing)) -> 0; can trap(if0(pause,exit0)) -> 3",
        "can trap(if0(nothing,exit0)) -> 1; can trap(if0(exit0,exit1)) -> 5");
    ReactiveWires wires = new ReactiveWires();
    int[] due = {63, 31, 15, 7, 3, 3};
    for (int traps = 0; traps < due.length; traps++) {
      RUNS.more("can: all codes in TRAPS", wires, "can " + Programs.inTraps(traps, ALL) + " -> " + due[traps]);
    }
    for (int n = 0; n <= 3; n++) {
      RUNS.more("can: left where it is due", wires, "can " + Programs.inTraps(n, "exit" + n) + " -> 4",
          "can " + Programs.inTraps(n + 1, "exit" + n) + " -> 1; can " + Programs.inTraps(n + 2, "exit" + n) + " -> 1");
    }
  }

  private static void canWithTheGreatestCode() {
    RUNS.run("can: code 5", "can exit3 -> 32; can seq(exit3,pause) -> 32; can seq(nothing,exit3) -> 32; can par(exit3,exit3) -> 32",
        "can loop(exit3) -> 32; can if0(exit3,exit3) -> 32; can suspend0(exit3) -> 32; can local3(exit3) -> 32",
        "can trap(exit3) -> 16; can par(trap(exit3),exit3) -> 32; can par(trap(exit3),exit2) -> 16");
  }

  private static void canLooksAtTheStartAlone() {
    RUNS.run("can: the instant in which it starts", "can seq(pause,exit3) -> 2; can par(seq(pause,exit0),nothing) -> 2",
        "can loop(seq(pause,nothing)) -> 2; can trap(seq(pause,exit0)) -> 2; can if0(seq(pause,exit0),nothing) -> 3");
    RUNS.run("can: it needs no program and asks for none", "make 10 3 0 0 -> 0; can 0 -> 32; make 1 0 0 0 -> 1; build 1 -> 1",
        "react 0 -> 0; can 0 -> 32; can 1 -> 2; react 0 -> 0; over -> 1; can 1 -> 2; can 0 -> 32");
  }

  private static void noSuchStatement() {
    for (int made : new int[] {0, 1, 7, 60}) {
      RUNS.refused("can: no such statement", pauses(made), INDEX, "can " + made, "can -1", "can -2", "can 60", "can 61",
          "can " + LEAST, "can " + GREATEST);
      if (made > 0) {
        RUNS.run("can: the first and the last", pauses(made), "can 0 -> 2; can " + (made - 1) + " -> 2");
      }
    }
  }
}
