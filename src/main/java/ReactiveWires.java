/**
 * Reactive programs of statements that wait, emit and ask for signals within instants: they are
 * checked for loops that never wait, turned into wires with three values, and each instant is the
 * least solution of the wires' equations.
 */
public final class ReactiveWires {
    /** Nothing there. */
    public static final int NONE = -1;

    private static final int NOTHING = 0;
    private static final int PAUSE = 1;
    private static final int EMIT = 2;
    private static final int SEQUENCE = 3;
    private static final int PARALLEL = 4;
    private static final int LOOP = 5;
    private static final int PRESENT = 6;
    private static final int SUSPEND = 7;
    private static final int LOCAL = 8;
    private static final int TRAP = 9;
    private static final int EXIT = 10;

    private static final int INPUTS = 3;
    private static final int SIGNALS = 8;
    private static final int HIGHEST_EXIT = 3;

    private static final int MOST_STATEMENTS = 60;
    private static final int DEEPEST = 20;
    private static final int MOST_COPIES = 300;
    private static final int MOST_REGISTERS = 60;

    // A pass but the last makes at least one of the 300 copies' 11 wires known: far fewer are run.
    private static final int MOST_PASSES = 10000;

    // The eleven wires of a copy are bits of one int; a set of codes is written in the same six bits.
    private static final int K0 = 1;
    private static final int K1 = 1 << 1;
    private static final int K2 = 1 << 2;
    private static final int CODES = (1 << 6) - 1;
    private static final int SEL = 1 << 6;
    private static final int GIVEN = CODES | SEL;
    private static final int GO = 1 << 7;
    private static final int RES = 1 << 8;
    private static final int SUSP = 1 << 9;
    private static final int KILL = 1 << 10;
    private static final int COMING = GO | RES | SUSP | KILL;

    private final Statements statements = new Statements();
    private final Program program = new Program();
    private int notConstructive = 0;

    public ReactiveWires() {
    }

    public int make(int kind, int a, int b, int c)
            throws IllegalArgumentException, IllegalStateException {
        boolean numbered = hasNumber(kind);
        int number = numbered ? a : NONE;
        int p = partsOf(kind) < 1 ? NONE : numbered ? b : a;
        int q = partsOf(kind) < 2 ? NONE : numbered ? c : b;
        if (kind < NOTHING || kind > EXIT || !numberFits(kind, number)) {
            throw new IllegalArgumentException("no such kind, or not with that number");
        }
        if (!statements.haveParts(kind, p, q)) {
            throw new IllegalArgumentException("a statement in it is not made yet");
        }
        if (statements.size >= MOST_STATEMENTS || statements.depthAround(p, q) > DEEPEST) {
            throw new IllegalStateException("too many statements, or too deep");
        }
        return statements.add(kind, number, p, q);
    }

    public int can(int p) throws IndexOutOfBoundsException {
        if (!statements.has(p)) {
            throw new IndexOutOfBoundsException("no such statement");
        }
        return statements.codes[p];
    }

    public int build(int root) throws IndexOutOfBoundsException, UnsupportedOperationException {
        if (!statements.has(root)) {
            throw new IndexOutOfBoundsException("no such statement");
        }
        if (statements.isRefused(root)) {
            throw new UnsupportedOperationException("the program is refused");
        }
        program.becomeCopiesOf(statements, root);
        return program.registerCount;
    }

    public int react(int inputs) throws IllegalArgumentException, IllegalStateException {
        if (inputs < 0 || inputs >= 1 << INPUTS) {
            throw new IllegalArgumentException("not a set of inputs");
        }
        if (program.isMissing()) {
            throw new IllegalStateException("no program");
        }
        if (program.ended) {
            program.instants++;
            return inputs;
        }
        program.solve(inputs);
        if (!program.isConstructive()) {
            notConstructive++;
            program.unknownSignals = program.countUnknownSignals();
            throw new IllegalStateException("the instant is not constructive");
        }
        program.finishInstant();
        return program.signalsThere();
    }

    public int unknown() {
        return program.unknownSignals;
    }

    public int reset() throws IllegalStateException {
        if (program.isMissing()) {
            throw new IllegalStateException("no program");
        }
        int instants = program.instants;
        program.rewind();
        return instants;
    }

    public boolean register(int i) throws IndexOutOfBoundsException {
        if (i < 0 || i >= program.registerCount) {
            throw new IndexOutOfBoundsException("no such register");
        }
        return program.registers[i];
    }

    public boolean over() {
        return program.ended;
    }

    public int count(int what) throws IndexOutOfBoundsException {
        switch (what) {
            case 0:
                return statements.size;
            case 1:
                return program.copies;
            case 2:
                return program.instants;
            case 3:
                return notConstructive;
            default:
                throw new IndexOutOfBoundsException("nothing to count");
        }
    }

    private static boolean hasNumber(int kind) {
        return kind == EMIT || kind == PRESENT || kind == SUSPEND || kind == LOCAL || kind == EXIT;
    }

    private static int partsOf(int kind) {
        switch (kind) {
            case SEQUENCE:
            case PARALLEL:
            case PRESENT:
                return 2;
            case LOOP:
            case SUSPEND:
            case LOCAL:
            case TRAP:
                return 1;
            default:
                return 0;
        }
    }

    private static boolean numberFits(int kind, int number) {
        switch (kind) {
            case EMIT:
            case LOCAL:
                return number >= INPUTS && number < SIGNALS;
            case PRESENT:
            case SUSPEND:
                return number >= 0 && number < SIGNALS;
            case EXIT:
                return number >= 0 && number <= HIGHEST_EXIT;
            default:
                return true;
        }
    }

    /** The codes of which the given ones hold one that is not greater. */
    private static int reached(int codes) {
        int reached = codes | (codes << 1);
        reached |= reached << 2;
        reached |= reached << 4;
        return reached & CODES;
    }

    /** The codes as they are outside a TRAP. */
    private static int outsideTrap(int codes) {
        int kept = codes & (K0 | K1);
        int caught = (codes & K2) != 0 ? K0 : 0;
        int lessened = (codes >> 1) & CODES & ~(K0 | K1);
        return kept | caught | lessened;
    }

    /** The statements, each with what a build of it must know, so that a build is refused at once. */
    private static final class Statements {
        final int[] kinds = new int[MOST_STATEMENTS];
        final int[] numbers = new int[MOST_STATEMENTS];
        final int[] firsts = new int[MOST_STATEMENTS];
        final int[] seconds = new int[MOST_STATEMENTS];
        final int[] codes = new int[MOST_STATEMENTS];
        final int[] depths = new int[MOST_STATEMENTS];
        final int[] copies = new int[MOST_STATEMENTS];
        final int[] pauses = new int[MOST_STATEMENTS];
        final int[] missingTraps = new int[MOST_STATEMENTS];
        final boolean[] neverWait = new boolean[MOST_STATEMENTS];
        int size = 0;

        boolean has(int statement) {
            return statement >= 0 && statement < size;
        }

        boolean haveParts(int kind, int p, int q) {
            int parts = partsOf(kind);
            return (parts < 1 || has(p)) && (parts < 2 || has(q));
        }

        int depthAround(int p, int q) {
            return 1 + Math.max(factOf(depths, p), factOf(depths, q));
        }

        boolean isRefused(int root) {
            return neverWait[root] || missingTraps[root] > 0
                    || copies[root] > MOST_COPIES || pauses[root] > MOST_REGISTERS;
        }

        int add(int kind, int number, int p, int q) {
            int made = size;
            // A LOOP has two copies of p in it, so p stands on both sides.
            int second = kind == LOOP ? p : q;
            kinds[made] = kind;
            numbers[made] = number;
            firsts[made] = p;
            seconds[made] = second;
            codes[made] = codesOf(kind, number, factOf(codes, p), factOf(codes, second));
            depths[made] = depthAround(p, q);
            copies[made] = 1 + factOf(copies, p) + factOf(copies, second);
            pauses[made] = (kind == PAUSE ? 1 : 0) + factOf(pauses, p) + factOf(pauses, second);
            missingTraps[made] = missingTrapsOf(kind, number, p, second);
            neverWait[made] = (kind == LOOP && (factOf(codes, p) & K0) != 0)
                    || (has(p) && neverWait[p]) || (has(second) && neverWait[second]);
            size++;
            return made;
        }

        private int factOf(int[] facts, int statement) {
            return has(statement) ? facts[statement] : 0;
        }

        private int missingTrapsOf(int kind, int number, int p, int q) {
            if (kind == EXIT) {
                return number + 1;
            }
            int missing = Math.max(factOf(missingTraps, p), factOf(missingTraps, q));
            return kind == TRAP && missing > 0 ? missing - 1 : missing;
        }

        private static int codesOf(int kind, int number, int p, int q) {
            switch (kind) {
                case NOTHING:
                case EMIT:
                    return K0;
                case PAUSE:
                    return K1;
                case EXIT:
                    return K2 << number;
                case SEQUENCE:
                    return (p & K0) != 0 ? (p & ~K0) | q : p;
                case PARALLEL:
                    return (p & reached(q)) | (q & reached(p));
                case LOOP:
                    return p & ~K0;
                case PRESENT:
                    return p | q;
                case TRAP:
                    return outsideTrap(p);
                default:
                    return p;
            }
        }
    }

    /**
     * One bit for each wire. Two rows hold the three values: true is set in both, false in none, and
     * unknown in the row of what is possible alone.
     */
    private static final class Row {
        final int[] wires = new int[MOST_COPIES];
        final boolean[] signals = new boolean[SIGNALS + MOST_COPIES];

        boolean has(int copy, int wire) {
            return (wires[copy] & wire) != 0;
        }
    }

    /** The copies of a program's statements, their registers, and the wires of an instant. */
    private static final class Program {
        private final int[] kinds = new int[MOST_COPIES];
        // A copy's number is a PAUSE's register, an EXIT's n, or which signal is meant.
        private final int[] numbers = new int[MOST_COPIES];
        private final int[] around = new int[MOST_COPIES];
        private final int[] firsts = new int[MOST_COPIES];
        private final int[] seconds = new int[MOST_COPIES];
        // In the order in which control flows: copy when it is entered, ~copy when it is left.
        private final int[] steps = new int[2 * MOST_COPIES];
        private final int[] meant = new int[SIGNALS];
        private final Row surely = new Row();
        private final Row possibly = new Row();
        final boolean[] registers = new boolean[MOST_REGISTERS];
        int copies = 0;
        int registerCount = 0;
        private int signalCount = 0;
        private int stepCount = 0;
        int instants = 0;
        int unknownSignals = 0;
        boolean ended = false;

        boolean isMissing() {
            return copies == 0;
        }

        /** Only for a root that is not refused: the rows have no place for more. */
        void becomeCopiesOf(Statements all, int root) {
            copies = 0;
            registerCount = 0;
            stepCount = 0;
            signalCount = SIGNALS;
            for (int s = 0; s < SIGNALS; s++) {
                meant[s] = s;
            }
            addCopy(all, root, NONE);
            unknownSignals = 0;
            rewind();
        }

        void rewind() {
            for (int i = 0; i < registerCount; i++) {
                registers[i] = false;
            }
            instants = 0;
            ended = false;
        }

        /** Calls itself at most 20 deep, since no deeper statement is ever made. */
        private int addCopy(Statements all, int statement, int outer) {
            if (!all.has(statement)) {
                return NONE;
            }
            int copy = copies++;
            int kind = all.kinds[statement];
            int number = all.numbers[statement];
            int hidden = kind == LOCAL ? meant[number] : NONE;
            if (kind == LOCAL) {
                meant[number] = signalCount++;
            }
            kinds[copy] = kind;
            numbers[copy] = numberOfCopy(kind, number);
            around[copy] = outer;
            steps[stepCount++] = copy;
            firsts[copy] = addCopy(all, all.firsts[statement], copy);
            seconds[copy] = addCopy(all, all.seconds[statement], copy);
            steps[stepCount++] = ~copy;
            if (kind == LOCAL) {
                meant[number] = hidden;
            }
            return copy;
        }

        private int numberOfCopy(int kind, int number) {
            if (kind == PAUSE) {
                return registerCount++;
            }
            return kind == EXIT || !hasNumber(kind) ? number : meant[number];
        }

        void solve(int inputs) {
            makeUnknown(inputs);
            boolean changed = true;
            for (int pass = 0; changed && pass < MOST_PASSES; pass++) {
                gatherSignals(surely);
                gatherSignals(possibly);
                changed = takeAllSteps();
            }
        }

        private void makeUnknown(int inputs) {
            for (int copy = 0; copy < copies; copy++) {
                surely.wires[copy] = 0;
                possibly.wires[copy] = COMING | GIVEN;
            }
            for (int s = 0; s < INPUTS; s++) {
                boolean there = ((inputs >> s) & 1) != 0;
                surely.signals[s] = there;
                possibly.signals[s] = there;
            }
        }

        private void gatherSignals(Row row) {
            for (int s = INPUTS; s < signalCount; s++) {
                row.signals[s] = false;
            }
            for (int copy = 0; copy < copies; copy++) {
                if (kinds[copy] == EMIT && row.has(copy, GO)) {
                    row.signals[numbers[copy]] = true;
                }
            }
        }

        private boolean takeAllSteps() {
            boolean changed = false;
            for (int i = 0; i < stepCount; i++) {
                if (takeStep(steps[i], surely, possibly)) {
                    changed = true;
                }
                if (takeStep(steps[i], possibly, surely)) {
                    changed = true;
                }
            }
            return changed;
        }

        /** The other row is asked wherever an equation says not. */
        private boolean takeStep(int step, Row row, Row other) {
            boolean entered = step >= 0;
            int copy = entered ? step : ~step;
            int before = row.wires[copy];
            int now = entered
                    ? (before & GIVEN) | comingTo(copy, row, other)
                    : (before & COMING) | givenBy(copy, row, other);
            row.wires[copy] = now;
            return now != before;
        }

        private int comingTo(int copy, Row row, Row other) {
            int outer = around[copy];
            if (outer == NONE) {
                return instants == 0 ? GO : RES;
            }
            int coming = row.wires[outer] & COMING;
            int first = firsts[outer];
            switch (kinds[outer]) {
                case SEQUENCE:
                    return copy == first ? coming : withGo(coming, row.has(first, K0));
                case LOOP:
                    return withGo(coming, copy == first
                            ? row.has(outer, GO) || row.has(seconds[outer], K0)
                            : row.has(first, K0));
                case PRESENT:
                    return withGo(coming, row.has(outer, GO) && (copy == first
                            ? row.signals[numbers[outer]]
                            : !other.signals[numbers[outer]]));
                case SUSPEND:
                    int resumed = other.signals[numbers[outer]] ? coming & ~RES : coming;
                    return holds(outer, row) ? resumed | SUSP : resumed;
                case TRAP:
                    return row.has(copy, K2) ? coming | KILL : coming;
                default:
                    return coming;
            }
        }

        private static int withGo(int coming, boolean go) {
            return go ? coming | GO : coming & ~GO;
        }

        /** The w of a SUSPEND: it holds back what waits in it. */
        private boolean holds(int suspend, Row row) {
            return row.has(suspend, RES) && row.has(firsts[suspend], SEL)
                    && row.signals[numbers[suspend]];
        }

        private int givenBy(int copy, Row row, Row other) {
            int started = row.has(copy, GO) ? CODES : 0;
            int p = givenBySide(firsts[copy], row);
            int q = givenBySide(seconds[copy], row);
            switch (kinds[copy]) {
                case NOTHING:
                case EMIT:
                    return started & K0;
                case PAUSE:
                    return givenByPause(copy, row);
                case EXIT:
                    return started & (K2 << numbers[copy]);
                case SEQUENCE:
                    return (p & ~K0) | q;
                case PARALLEL:
                    return givenByParallel(copy, p, q, other);
                case LOOP:
                    return (p | q) & ~K0;
                case PRESENT:
                    return p | q;
                case SUSPEND:
                    return holds(copy, row) ? p | K1 : p;
                case TRAP:
                    return (p & SEL) | outsideTrap(p & CODES);
                default:
                    return p;
            }
        }

        private static int givenBySide(int side, Row row) {
            return side == NONE ? 0 : row.wires[side] & GIVEN;
        }

        private int givenByPause(int copy, Row row) {
            int given = row.has(copy, GO) ? K1 : 0;
            if (registers[numbers[copy]]) {
                given |= row.has(copy, RES) ? SEL | K0 : SEL;
            }
            return given;
        }

        private int givenByParallel(int copy, int p, int q, Row other) {
            boolean started = other.has(copy, GO);
            boolean pLives = started || other.has(firsts[copy], SEL);
            boolean qLives = started || other.has(seconds[copy], SEL);
            int besideP = pLives ? reached(p & CODES) : CODES;
            int besideQ = qLives ? reached(q & CODES) : CODES;
            return ((p | q) & SEL) | (p & besideQ) | (q & besideP);
        }

        boolean isConstructive() {
            for (int copy = 0; copy < copies; copy++) {
                if (surely.wires[copy] != possibly.wires[copy]) {
                    return false;
                }
            }
            // A signal is known when the GO of each EMIT is.
            return true;
        }

        int countUnknownSignals() {
            int count = 0;
            for (int s = 0; s < SIGNALS; s++) {
                if (surely.signals[s] != possibly.signals[s]) {
                    count++;
                }
            }
            return count;
        }

        void finishInstant() {
            for (int copy = 0; copy < copies; copy++) {
                if (kinds[copy] == PAUSE) {
                    setRegister(copy);
                }
            }
            ended = surely.has(0, K0);
            instants++;
        }

        private void setRegister(int pause) {
            int i = numbers[pause];
            boolean kept = surely.has(pause, SUSP) && registers[i];
            registers[i] = (surely.has(pause, GO) || kept) && !surely.has(pause, KILL);
        }

        int signalsThere() {
            int there = 0;
            for (int s = 0; s < SIGNALS; s++) {
                if (surely.signals[s]) {
                    there |= 1 << s;
                }
            }
            return there;
        }
    }
}
