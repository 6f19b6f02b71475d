/**
 * The third paragraph of "Terms" with promise 4, sentence by sentence: of which copies a program is built, when
 * it is refused, how its registers are numbered, and which signal is meant inside a LOCAL.
 */
final class ProgramsTest {
  private static final String STATE = Runs.STATE;
  private static final String INDEX = Runs.INDEX;
  private static final String REFUSED = Runs.REFUSED;

  // Each way in which a statement X can be in another one, with so many TRAPS around X as before.
  private static final String[] AROUND = {
      "seq(X,pause)", "seq(pause,X)", "par(X,pause)", "par(pause,X)", "loop(seq(pause,X))", "if0(X,nothing)",
      "if0(nothing,X)", "suspend0(X)", "local3(X)"};

  // A program that was in use, to see that it stays.
  private static final String IN_USE =
      "build par(loop(seq(emit3,pause)),seq(pause,if0(nothing,if6(emit6,nothing)))) -> 3; react 0 -> 8;"
      + "react 0 -> throws.IllegalStateException; unknown -> 1;";

  private static final Runs RUNS = new Runs();

  public static void main(String[] args) {
    theRootIsOneCopy();
    aCopyHasCopiesOfThoseInIt();
    aLoopHasTwoOfP();
    refusedForALoop();
    refusedForALoopAnywhere();
    refusedForAnExit();
    trapsThatAreNotAround();
    refusedForCopies();
    refusedForPauses();
    bothLimitsAtOnce();
    refusedAtOnceWhenHuge();
    eachReasonLeavesTheProgramBefore();
    eachPauseIsARegister();
    pBeforeQ();
    withAllThatIsInIt();
    loopsFirstCopyBeforeTheSecond();
    aLocalsOwnSignal();
    outsideALocal();
    localInALocal();
    eachCopyOfALocal();
    localsOfEverySignal();
    atItsBeginning();
    noSuchStatement();
    RUNS.end();
  }

  private static void theRootIsOneCopy() {
    RUNS.run("the root is one", "build nothing -> 0; count 1 -> 1; build pause -> 1; count 1 -> 1",
        "build emit3 -> 0; count 1 -> 1; build nothing -> 0; count 1 -> 1");
  }

  private static void aCopyHasCopiesOfThoseInIt() {
    RUNS.run("one in it", "build suspend0(pause) -> 1; count 1 -> 2; build local3(pause) -> 1; count 1 -> 2",
        "build trap(pause) -> 1; count 1 -> 2; build trap(exit0) -> 0; count 1 -> 2");
    RUNS.run("two in it", "build seq(pause,nothing) -> 1; count 1 -> 3; build par(nothing,pause) -> 1; count 1 -> 3",
        "build if0(pause,nothing) -> 1; count 1 -> 3");
    RUNS.run("the same one twice", "build seq(pause,pause) -> 2; count 1 -> 3; build par(pause,pause) -> 2; count 1 -> 3",
        "build if0(pause,pause) -> 2; count 1 -> 3; build par(par(pause,pause),par(pause,pause)) -> 4; count 1 -> 7");
  }

  private static void aLoopHasTwoOfP() {
    RUNS.run("two of p", "build loop(pause) -> 2; count 1 -> 3; build loop(seq(pause,nothing)) -> 2; count 1 -> 7",
        "build loop(loop(pause)) -> 4; count 1 -> 7; build loop(loop(loop(pause))) -> 8; count 1 -> 15",
        "build seq(loop(pause),loop(pause)) -> 4; count 1 -> 7; build loop(loop(loop(loop(pause)))) -> 16; count 1 -> 31",
        "build loop(loop(loop(loop(loop(pause))))) -> 32; count 1 -> 63",
        "build loop(loop(loop(loop(loop(loop(pause)))))) -> " + REFUSED);
  }

  private static void refusedForALoop() {
    RUNS.run("p can answer 0", "build loop(nothing) -> " + REFUSED, "build loop(emit3) -> " + REFUSED,
        "build loop(if0(pause,nothing)) -> " + REFUSED, "build loop(if0(nothing,pause)) -> " + REFUSED,
        "build loop(seq(nothing,emit3)) -> " + REFUSED, "build loop(suspend0(nothing)) -> " + REFUSED,
        "build loop(local3(emit3)) -> " + REFUSED, "build loop(trap(exit0)) -> " + REFUSED,
        "build loop(trap(if0(pause,exit0))) -> " + REFUSED, "build loop(par(nothing,emit3)) -> " + REFUSED,
        "build trap(loop(if0(exit0,nothing))) -> " + REFUSED, "build loop(trap(seq(if0(nothing,exit0),pause))) -> " + REFUSED);
    RUNS.run("p can not answer 0", "build loop(pause) -> 2; build loop(if0(pause,pause)) -> 4; build loop(seq(nothing,pause)) -> 2",
        "build loop(seq(pause,nothing)) -> 2; build loop(suspend0(pause)) -> 2; build loop(local3(pause)) -> 2",
        "build loop(trap(pause)) -> 2; build loop(par(nothing,pause)) -> 2; build trap(loop(exit0)) -> 0",
        "build trap(loop(if0(exit0,pause))) -> 2; build loop(trap(seq(pause,exit0))) -> 2; build loop(loop(pause)) -> 4");
  }

  private static void refusedForALoopAnywhere() {
    // Even where it never starts: the check does not run the program.
    for (String around : AROUND) {
      RUNS.refused("a LOOP that never waits", IN_USE, REFUSED, "build " + around.replace("X", "loop(nothing)"));
      RUNS.run("a LOOP that waits", "build " + around.replace("X", "loop(pause)") + " -> "
          + (around.startsWith("loop") ? 6 : around.contains("pause") ? 3 : 2));
    }
    RUNS.refused("a LOOP that never waits", IN_USE, REFUSED, "build trap(loop(nothing))", "build loop(loop(nothing))",
        "build seq(loop(pause),loop(nothing))", "build trap(seq(exit0,loop(emit3)))");
  }

  private static void refusedForAnExit() {
    for (int n = 0; n <= 3; n++) {
      for (int traps = 0; traps <= n; traps++) {
        RUNS.refused("less than n + 1 TRAPS", IN_USE, REFUSED, "build " + Programs.inTraps(traps, "exit" + n));
      }
      RUNS.run("n + 1 TRAPS", "build " + Programs.inTraps(n + 1, "exit" + n) + " -> 0; count 1 -> " + (n + 2));
      RUNS.run("n + 2 TRAPS", "build " + Programs.inTraps(n + 2, "exit" + n) + " -> 0; count 1 -> " + (n + 3));
      for (String around : AROUND) {
        String within = around.replace("X", Programs.inTraps(n, "exit" + n));
        RUNS.refused("one TRAP is missing", IN_USE, REFUSED, "build " + within);
        RUNS.run("a TRAP further out", "build trap(" + within + ") -> "
            + (around.startsWith("loop") ? 2 : around.contains("pause") ? 1 : 0));
      }
    }
  }

  private static void trapsThatAreNotAround() {
    RUNS.refused("a TRAP beside it, not around", IN_USE, REFUSED, "build seq(trap(nothing),exit0)", "build par(exit0,trap(pause))",
        "build if0(trap(exit0),exit0)", "build seq(trap(exit0),exit0)", "build par(exit0,trap(exit0))",
        "build trap(seq(trap(exit1),exit1))", "build trap(par(exit1,trap(exit1)))", "build seq(loop(pause),exit0)",
        "build par(trap(exit1),trap(trap(exit1)))", "build seq(trap(trap(exit1)),trap(exit1))");
    RUNS.run("each has its TRAPS", "build seq(trap(exit0),trap(exit0)) -> 0; build trap(seq(trap(exit1),exit0)) -> 0",
        "build trap(trap(par(exit1,trap(exit2)))) -> 0; build trap(if0(exit0,trap(exit0))) -> 0");
    RUNS.run("around the root is nothing", "build trap(exit0) -> 0; build exit0 -> " + REFUSED,
        "build trap(trap(exit1)) -> 0; build trap(exit1) -> " + REFUSED, "react 0 -> 0; over -> 1; count 1 -> 3");
  }

  private static void refusedForCopies() {
    for (int n : new int[] {1, 2, 3, 150, 299, 300}) {
      RUNS.run("up to 300 copies", "build " + Programs.copies(n) + " -> 0; count 1 -> " + n + "; react 5 -> 5; over -> 1");
    }
    RUNS.refused("301 copies", IN_USE, REFUSED, "build " + Programs.copies(301), "build " + Programs.copies(302));
    // The last one that fits and the first one that does not, for each kind around.
    String[][] pairs = {
        {"seq(" + Programs.copies(149) + "," + Programs.copies(150) + ")", "seq(" + Programs.copies(150) + "," + Programs.copies(150) + ")"},
        {"par(" + Programs.copies(150) + "," + Programs.copies(149) + ")", "par(" + Programs.copies(151) + "," + Programs.copies(149) + ")"},
        {"if0(" + Programs.copies(1) + "," + Programs.copies(298) + ")", "if0(" + Programs.copies(1) + "," + Programs.copies(299) + ")"},
        {"suspend0(" + Programs.copies(299) + ")", "suspend0(" + Programs.copies(300) + ")"},
        {"local3(" + Programs.copies(299) + ")", "local3(" + Programs.copies(300) + ")"},
        {"trap(" + Programs.copies(299) + ")", "trap(" + Programs.copies(300) + ")"}};
    for (String[] pair : pairs) {
      RUNS.run("300 copies", "build " + pair[0] + " -> 0; count 1 -> 300; react 7 -> 7; over -> 1");
      RUNS.refused("301 copies", IN_USE, REFUSED, "build " + pair[1]);
    }
    String of149 = "seq(pause," + Programs.copies(147) + ")";
    String of150 = "seq(pause," + Programs.copies(148) + ")";
    RUNS.run("299 copies in a LOOP", "build loop(" + of149 + ") -> 2; count 1 -> 299; react 0 -> 0; react 0 -> 0; registers -> 01");
    RUNS.run("300 copies with a LOOP", "build trap(loop(" + of149 + ")) -> 2; count 1 -> 300; react 0 -> 0; react 0 -> 0; registers -> 01");
    RUNS.refused("301 copies in a LOOP", IN_USE, REFUSED, "build loop(" + of150 + ")", "build trap(trap(loop(" + of149 + ")))");
  }

  private static void refusedForPauses() {
    for (int n : new int[] {1, 2, 59, 60}) {
      RUNS.run("up to 60 PAUSES", "build " + Programs.pauses(n) + " -> " + n + "; count 1 -> " + (2 * n - 1),
          "register " + (n - 1) + " -> 0; react 0 -> 0; register 0 -> 1; register " + (n - 1) + " -> 1; register " + n + " -> " + INDEX,
          "react 0 -> 0; over -> 1; register " + (n - 1) + " -> 0");
    }
    RUNS.refused("61 PAUSES", IN_USE, REFUSED, "build " + Programs.pauses(61), "build " + Programs.pauses(62));
    for (String two : new String[] {"seq(P,Q)", "par(P,Q)", "if0(P,Q)"}) {
      RUNS.run("60 PAUSES", "build " + two.replace("P", Programs.pauses(30)).replace("Q", Programs.pauses(30)) + " -> 60");
      RUNS.refused("61 PAUSES", IN_USE, REFUSED, "build " + two.replace("P", Programs.pauses(31)).replace("Q", Programs.pauses(30)),
          "build " + two.replace("P", Programs.pauses(30)).replace("Q", Programs.pauses(31)));
    }
    for (String one : new String[] {"suspend0(P)", "local3(P)", "trap(P)"}) {
      RUNS.run("60 PAUSES", "build " + one.replace("P", Programs.pauses(60)) + " -> 60");
      RUNS.refused("61 PAUSES", IN_USE, REFUSED, "build " + one.replace("P", Programs.pauses(61)));
    }
    RUNS.run("60 PAUSES in a LOOP", "build loop(" + Programs.pauses(30) + ") -> 60; count 1 -> 119");
    RUNS.refused("61 PAUSES with a LOOP", IN_USE, REFUSED, "build par(loop(" + Programs.pauses(30) + "),pause)",
        "build loop(" + Programs.pauses(31) + ")");
  }

  private static void bothLimitsAtOnce() {
    String sixty = Programs.pauses(60);
    RUNS.run("300 copies, 60 of them PAUSES", "build par(" + sixty + "," + Programs.copies(180) + ") -> 60; count 1 -> 300",
        "react 0 -> 0; register 59 -> 1; register 0 -> 1; over -> 0; react 7 -> 7; over -> 1; reset -> 2");
    RUNS.refused("one PAUSE or one copy more", IN_USE, REFUSED, "build par(" + Programs.pauses(61) + "," + Programs.copies(178) + ")",
        "build par(" + sixty + "," + Programs.copies(181) + ")");
  }

  private static void refusedAtOnceWhenHuge() {
    // 20 deep, with more than a million copies.
    for (String pair : new String[] {"make 4 P P 0", "make 3 P P 0", "make 5 P 0 0", "make 6 0 P P"}) {
      StringBuilder rows = new StringBuilder("make 1 0 0 0 -> 0;");
      for (int made = 1; made < 20; made++) {
        rows.append(pair.replace("P", "" + (made - 1))).append(" -> ").append(made).append(';');
      }
      RUNS.refused("huge", rows + "build 0 -> 1; react 0 -> 0;", REFUSED, "build 19", "build 18", "build 9", "build 8", "build 7", "build 6");
      RUNS.run("not huge", rows.toString(), "build 5 -> 32; count 1 -> 63");
    }
  }

  private static void eachReasonLeavesTheProgramBefore() {
    String[] refused = {"build loop(nothing)", "build exit0", "build " + Programs.copies(301), "build " + Programs.pauses(61)};
    RUNS.refused("the program before stays", IN_USE, REFUSED, refused);
    RUNS.refused("at its beginning", "build seq(emit3,pause) -> 1;", REFUSED, refused);
    RUNS.refused("over", "build seq(emit3,pause) -> 1; react 0 -> 8; react 0 -> 0; over -> 1; react 4 -> 4;", REFUSED, refused);
    for (String build : refused) {
      RUNS.run("no program before", build + " -> " + REFUSED, "count 1 -> 0; count 2 -> 0; over -> 0; unknown -> 0",
          "react 0 -> " + STATE, "reset -> " + STATE, "register 0 -> " + INDEX, "count 3 -> 0");
    }
  }

  private static void eachPauseIsARegister() {
    RUNS.run("no PAUSE, no register", "build seq(emit3,nothing) -> 0; register 0 -> " + INDEX);
    RUNS.run("one statement, three registers", "build par(pause,seq(pause,pause)) -> 3; count 0 -> 3; registers -> 000",
        "react 0 -> 0; registers -> 110; react 0 -> 0; registers -> 001; react 0 -> 0; registers -> 000; over -> 1");
  }

  private static void pBeforeQ() {
    RUNS.run("SEQUENCE", "build seq(pause,pause) -> 2; react 0 -> 0; registers -> 10; react 0 -> 0; registers -> 01");
    RUNS.run("PARALLEL", "build par(if0(pause,nothing),if1(pause,nothing)) -> 2; react 1 -> 1; registers -> 10",
        "reset -> 1; react 2 -> 2; registers -> 01; reset -> 1; react 3 -> 3; registers -> 11");
    RUNS.run("PRESENT", "build if0(pause,pause) -> 2; react 1 -> 1; registers -> 10; reset -> 1; react 0 -> 0; registers -> 01");
  }

  private static void withAllThatIsInIt() {
    RUNS.run("p with all in it", "build par(seq(pause,pause),pause) -> 3; react 0 -> 0; registers -> 101; react 0 -> 0; registers -> 010");
    RUNS.run("p with all in it", "build par(pause,seq(pause,pause)) -> 3; react 0 -> 0; registers -> 110; react 0 -> 0; registers -> 001");
    RUNS.run("p with all in it", "build seq(if0(pause,seq(pause,pause)),if1(pause,pause)) -> 5",
        "react 0 -> 0; registers -> 01000; react 0 -> 0; registers -> 00100; react 0 -> 0; registers -> 00001",
        "reset -> 3; react 1 -> 1; registers -> 10000; react 2 -> 2; registers -> 00010");
    RUNS.run("through one that has one in it", "build par(local3(suspend0(trap(pause))),seq(nothing,seq(pause,pause))) -> 3",
        "react 0 -> 0; registers -> 110; react 1 -> 1; registers -> 101");
  }

  private static void loopsFirstCopyBeforeTheSecond() {
    RUNS.run("LOOP", "build loop(pause) -> 2; react 0 -> 0; registers -> 10; react 0 -> 0; registers -> 01; react 0 -> 0; registers -> 10");
    RUNS.run("LOOP with all in it", "build loop(seq(pause,pause)) -> 4; react 0 -> 0; registers -> 1000; react 0 -> 0; registers -> 0100",
        "react 0 -> 0; registers -> 0010; react 0 -> 0; registers -> 0001; react 0 -> 0; registers -> 1000");
    RUNS.run("LOOP of two sides", "build loop(par(pause,pause)) -> 4; react 0 -> 0; registers -> 1100; react 0 -> 0; registers -> 0011",
        "react 0 -> 0; registers -> 1100; over -> 0");
    RUNS.run("LOOP in a LOOP", "build loop(trap(loop(seq(pause,if0(exit0,nothing))))) -> 4; react 1 -> 1; registers -> 1000",
        "react 0 -> 0; registers -> 0100; react 1 -> 1; registers -> 0010; react 0 -> 0; registers -> 0001; react 1 -> 1; registers -> 1000");
    RUNS.run("beside a LOOP", "build par(loop(pause),pause) -> 3; react 0 -> 0; registers -> 101; react 0 -> 0; registers -> 010");
    RUNS.run("beside a LOOP", "build par(pause,loop(pause)) -> 3; react 0 -> 0; registers -> 110; react 0 -> 0; registers -> 001");
  }

  private static void aLocalsOwnSignal() {
    RUNS.run("meant by EMIT", "build local3(emit3) -> 0; react 0 -> 0; build local3(emit4) -> 0; react 0 -> 16");
    RUNS.run("meant by PRESENT", "build local3(par(emit3,if3(emit4,emit5))) -> 0; react 0 -> 16",
        "build local3(if3(emit4,emit5)) -> 0; react 0 -> 32");
    RUNS.run("meant by SUSPEND", "build local3(par(suspend3(seq(pause,emit4)),seq(pause,if0(emit3,nothing)))) -> 2",
        "react 0 -> 0; react 1 -> 1; registers -> 10; reset -> 2; react 0 -> 0; react 0 -> 16; over -> 1");
    RUNS.run("a program's signal is not it", "build par(emit3,local3(if3(emit4,emit5))) -> 0; react 0 -> 40",
        "build par(seq(pause,emit3),local3(suspend3(seq(pause,emit4)))) -> 2; react 0 -> 0; react 0 -> 24");
    RUNS.run("only its own number", "build par(emit4,local3(if4(emit5,nothing))) -> 0; react 0 -> 48");
  }

  private static void outsideALocal() {
    RUNS.run("behind it", "build seq(local3(emit3),emit3) -> 0; react 0 -> 8; build seq(local3(emit3),if3(emit4,emit5)) -> 0; react 0 -> 32");
    RUNS.run("beside it", "build par(local3(emit3),if3(emit4,emit5)) -> 0; react 0 -> 32; build par(if3(emit4,emit5),local3(emit3)) -> 0; react 0 -> 32");
    RUNS.run("around it", "build if3(local3(emit3),emit4) -> 0; react 0 -> 16; build par(emit3,if3(local3(par(emit3,emit4)),emit5)) -> 0; react 0 -> 24");
    RUNS.run("the same statement inside and outside", "build par(local3(emit3),emit3) -> 0; react 0 -> 8",
        "build par(local3(if3(emit4,emit5)),par(emit3,if3(emit4,emit5))) -> 0; react 0 -> 56");
  }

  private static void localInALocal() {
    RUNS.run("the inner one is meant", "build local3(par(emit3,local3(if3(emit4,emit5)))) -> 0; react 0 -> 32",
        "build local3(par(if3(emit4,emit5),local3(emit3))) -> 0; react 0 -> 32",
        "build local3(local3(par(emit3,if3(emit4,emit5)))) -> 0; react 0 -> 16");
    RUNS.run("the outer one again", "build local3(seq(local3(emit3),par(emit3,if3(emit4,emit5)))) -> 0; react 0 -> 16",
        "build local3(par(local3(nothing),par(emit3,if3(emit4,emit5)))) -> 0; react 0 -> 16",
        "build par(emit3,local3(seq(local3(emit3),if3(emit4,emit5)))) -> 0; react 0 -> 40");
    RUNS.run("of another number", "build local3(par(emit3,local4(if3(emit4,emit5)))) -> 0; react 0 -> 0",
        "build local3(par(emit3,local4(if4(emit5,if3(emit6,emit7))))) -> 0; react 0 -> 64",
        "build local4(local3(par(emit3,par(emit4,if3(if4(emit5,nothing),nothing))))) -> 0; react 0 -> 32");
  }

  private static void eachCopyOfALocal() {
    RUNS.run("of two sides", "build par(local3(par(if0(emit3,nothing),if3(emit4,nothing))),local3(par(emit3,if3(emit5,nothing)))) -> 0",
        "react 0 -> 32; reset -> 1; react 1 -> 49");
    // One statement with a LOCAL in it, of which the first copy emits in one instant and the second asks.
    String asks = "seq(if3(emit4,nothing),pause,emit3)";
    RUNS.run("of a LOOP: each its own", "build loop(local3(" + asks + ")) -> 2; react 0 -> 0; react 0 -> 0; react 0 -> 0");
    RUNS.run("around a LOOP: one for both", "build local3(loop(" + asks + ")) -> 2; react 0 -> 0; react 0 -> 16; react 0 -> 16");
    RUNS.run("none: the program's for both", "build loop(" + asks + ") -> 2; react 0 -> 0; react 0 -> 24; react 0 -> 24");
  }

  private static void localsOfEverySignal() {
    for (int s = 3; s <= 7; s++) {
      int other = s == 7 ? 3 : s + 1;
      RUNS.run("LOCAL " + s, "build local" + s + "(par(emit" + s + ",if" + s + "(emit" + other + ",nothing))) -> 0; react 0 -> " + (1 << other),
          "build par(emit" + s + ",local" + s + "(if" + s + "(emit" + other + ",nothing))) -> 0; react 0 -> " + (1 << s));
    }
    // Most copies are LOCALS, so that there are about as many signals as there can be.
    String locals = "emit7";
    for (int i = 0; i < 15; i++) {
      locals = "local" + (3 + i % 5) + "(" + locals + ")";
    }
    for (int i = 0; i < 4; i++) {
      locals = "par(" + locals + "," + locals + ")";
    }
    RUNS.run("240 LOCALS", "build " + locals + " -> 0; count 1 -> 271; react 2 -> 2; over -> 1",
        "build emit7 -> 0; react 2 -> 130; over -> 1");
  }

  private static void atItsBeginning() {
    RUNS.run("built anew", "build seq(emit3,pause,emit4) -> 1; react 0 -> 8; register 0 -> 1; count 2 -> 1",
        "build seq(emit3,pause,emit4) -> 1; register 0 -> 0; count 2 -> 0; over -> 0; react 0 -> 8; react 0 -> 16; over -> 1",
        "build seq(emit3,pause,emit4) -> 1; over -> 0; count 2 -> 0; react 0 -> 8; react 0 -> 16");
    RUNS.run("another one", "build " + Programs.pauses(60) + " -> 60; react 0 -> 0; build pause -> 1; count 1 -> 1; registers -> 0",
        "register 1 -> " + INDEX, "build " + Programs.pauses(60) + " -> 60; register 59 -> 0; register 0 -> 0; react 0 -> 0; register 59 -> 1");
    RUNS.run("a LOCAL of the program before", "build local3(par(emit3,if3(emit4,nothing))) -> 0; react 0 -> 16",
        "build par(emit3,if3(emit4,nothing)) -> 0; react 0 -> 24; build emit3 -> 0; react 0 -> 8");
    RUNS.run("not at its beginning by itself", "build seq(pause,emit3) -> 1; react 0 -> 0; make 1 0 0 0 -> 3; can 0 -> 2; react 0 -> 8");
  }

  private static void noSuchStatement() {
    String[] calls = {"build -1", "build -2", "build 60", "build 61", "build -2147483648", "build 2147483647"};
    RUNS.refused("none made", "", INDEX, calls);
    RUNS.refused("none made", "", INDEX, "build 0");
    RUNS.refused("a program stays", "make 1 0 0 0 -> 0; make 5 0 0 0 -> 1; build 1 -> 2; react 0 -> 0", INDEX, calls);
    RUNS.refused("the next number", "make 1 0 0 0 -> 0; make 5 0 0 0 -> 1; build 1 -> 2; react 0 -> 0", INDEX, "build 2", "build 3");
    StringBuilder full = new StringBuilder();
    for (int made = 0; made < 60; made++) {
      full.append("make 1 0 0 0 -> ").append(made).append(';');
    }
    RUNS.refused("all 60 made", full + "build 59 -> 1", INDEX, calls);
  }
}
