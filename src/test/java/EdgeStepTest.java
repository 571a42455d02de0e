/** The boundary cases of the promises of steps and faults: 20 to 25. */
public final class EdgeStepTest extends Room {
    private static final int GET = 0, SET = 1, READ = 2, WRITE = 3, WITHIN = 4, MOVE = 5;

    public static void main(String[] args) throws IllegalAccessException {
        runAllOf(EdgeStepTest.class);
    }

    /** The one step, done in a full room: what run() answers, what met(0) tells, and the room without its steps. */
    private static ProbeRacks doneAlone(int gauge, int op, int a, int i, int b, int k, int fault) {
        String call = "step(" + op + ", " + a + ", " + i + ", " + b + ", " + k + ") with gauge " + gauge;
        ProbeRacks x = full(gauge);
        x.clear();
        int before = x.faults(0);
        due(call, x.step(op, a, i, b, k), 1);
        due("run(true) of " + call, x.run(true), fault == 0 ? 1 : 0);
        due("met(0) of " + call, x.met(0), fault);
        due("faults(0) of " + call, x.faults(0), fault == 0 ? before : before + 1);
        if (fault != 0) {
            due("fault() of " + call, x.fault(), fault);
        }
        x.clear();
        return x;
    }

    private static String fullWithoutSteps(int gauge) {
        ProbeRacks x = full(gauge);
        x.clear();
        return tellAll(x);
    }

    private static void comesTo(int gauge, int op, int a, int i, int b, int k, int fault) {
        ProbeRacks x = doneAlone(gauge, op, a, i, b, k, fault);
        due("the room after op " + op + " with gauge " + gauge, tellAll(x), fullWithoutSteps(gauge));
    }

    @Sentence(of = 20, says = "A STEP more: op 0 get(a, i)")
    static void stepGets() {
        gaugeDue("a first place", doneAlone(PLAIN, GET, ROW_OF_INTS, 0, 9, 7, 0), INTS, 5);
        gaugeDue("a last place", doneAlone(PLAIN, GET, ROW_OF_INTS, 2, 9, 7, 0), INTS, 7);
        gaugeDue("an empty place", doneAlone(PLAIN, GET, ROW_OF_FINE, 1, 9, 7, 0), NONE, 0);
        gaugeDue("a line", doneAlone(PLAIN, GET, ROW_OF_LINES, 0, 9, 7, 0), LINES, 2);
        for (int gauge : ALL_CONTENTS) {
            comesTo(gauge, GET, NOTHING, -1, 0, 0, 1);
            comesTo(gauge, GET, A_FINE, -1, 0, 0, 2);
            comesTo(gauge, GET, ROW_OF_INTS, -1, 0, 0, 3);
            comesTo(gauge, GET, ROW_OF_INTS, 16, 0, 0, 3);
        }
    }

    @Sentence(of = 20, says = "1 set(a, i)")
    static void stepSets() {
        ProbeRacks x = doneAlone(SHORTS, SET, ROW_OF_INTS, 2, 9, 7, 0);
        gaugeDue("the gauge stays", x, SHORTS, 300);
        placeDue(x, ROW_OF_INTS, 2, INTS, 300);
        placeDue(doneAlone(NONE, SET, ROW_OF_PLAIN, 0, 9, 7, 0), ROW_OF_PLAIN, 0, NONE, 0);
        placeDue(doneAlone(LINES, SET, ROW_OF_LINES, 1, 9, 7, 0), ROW_OF_LINES, 1, LINES, 2);
        for (int gauge : ALL_CONTENTS) {
            comesTo(gauge, SET, NOTHING, -1, 0, 0, 1);
            comesTo(gauge, SET, A_PLAIN, -1, 0, 0, 2);
            comesTo(gauge, SET, ROW_OF_INTS, 16, 0, 0, gauge == NONE ? 2 : 3);
            comesTo(gauge, SET, ROW_OF_LINES, 3, 0, 0, 3);
        }
        comesTo(LONGS, SET, ROW_OF_INTS, 0, 0, 0, 2);
        comesTo(PLAIN, SET, ROW_OF_FINE, 0, 0, 0, 2);
        comesTo(NONE, SET, A_LINE, 0, 0, 0, 2);
    }

    @Sentence(of = 20, says = "2 read(a, i, k)")
    static void stepReads() {
        for (int k = 0; k < 8; k++) {
            if (goesInto(INTS, k)) {
                gaugeDue("read as " + k, doneAlone(FINE, READ, ROW_OF_INTS, 1, 9, k, 0), k, -6);
            } else {
                comesTo(FINE, READ, ROW_OF_INTS, 1, 9, k, 2);
            }
            comesTo(FINE, READ, NOTHING, 0, 0, k, 1);
            comesTo(FINE, READ, ROW_OF_LINES, 16, 0, k, 2);
            comesTo(FINE, READ, ROW_OF_INTS, 3, 0, k, 3);
        }
    }

    @Sentence(of = 20, says = "3 write(a, i, k)")
    static void stepWrites() {
        long[] written = {1, 44, 300, 300, 300, 300, 300, 300};
        for (int k = 0; k < 8; k++) {
            if (goesInto(k, INTS)) {
                ProbeRacks x = doneAlone(DOUBLES, WRITE, ROW_OF_INTS, 1, 9, k, 0);
                gaugeDue("the gauge stays", x, DOUBLES, 300);
                placeDue(x, ROW_OF_INTS, 1, INTS, written[k]);
            } else {
                comesTo(DOUBLES, WRITE, ROW_OF_INTS, 1, 9, k, 2);
            }
            comesTo(BITS, WRITE, NOTHING, 0, 0, k, 1);
            comesTo(BITS, WRITE, ROW_OF_LINES, 16, 0, k, 2);
            comesTo(BITS, WRITE, ROW_OF_INTS, 3, 0, k, 3);
        }
    }

    @Sentence(of = 20, says = "(with no number in the GAUGE nothing is done)")
    static void stepWritesNoNumber() {
        for (int gauge : new int[] {PLAIN, FINE, LINES, NONE}) {
            comesTo(gauge, WRITE, ROW_OF_INTS, 0, 0, INTS, 0);
            comesTo(gauge, WRITE, NOTHING, 0, 0, INTS, 0);
            comesTo(gauge, WRITE, A_PLAIN, 0, 0, INTS, 0);
            comesTo(gauge, WRITE, ROW_OF_INTS, 16, 0, INTS, 0);
            comesTo(gauge, WRITE, ROW_OF_INTS, 0, 0, LONGS, 0);
        }
    }

    @Sentence(of = 20, says = "4 within(a, i, k)")
    static void stepLooksWithin() {
        gaugeDue("within", doneAlone(PLAIN, WITHIN, ROW_OF_LINES, 0, 9, 1, 0), LONGS, -9);
        gaugeDue("within", doneAlone(NONE, WITHIN, ROW_OF_LINES, 0, 9, 0, 0), LONGS, 8);
        for (int gauge : ALL_CONTENTS) {
            comesTo(gauge, WITHIN, NOTHING, 0, 0, 0, 1);
            comesTo(gauge, WITHIN, A_FINE, 0, 0, 0, 2);
            comesTo(gauge, WITHIN, ROW_OF_LINES, 3, 0, 0, 3);
            comesTo(gauge, WITHIN, ROW_OF_LINES, 1, 0, 7, 1);
            comesTo(gauge, WITHIN, ROW_OF_PLAIN, 0, 0, 7, 2);
            comesTo(gauge, WITHIN, ROW_OF_INTS, 0, 0, 7, 2);
            comesTo(gauge, WITHIN, ROW_OF_LINES, 0, 0, 2, 3);
            comesTo(gauge, WITHIN, ROW_OF_LINES, 2, 0, 0, 3);
        }
    }

    @Sentence(of = 20, says = "5 GETS place i of RACK a, and SETS it at place k of RACK b (the GAUGE stays)")
    static void stepMoves() {
        for (int gauge : ALL_CONTENTS) {
            long value = full(gauge).value();
            ProbeRacks x = doneAlone(gauge, MOVE, ROW_OF_BYTES, 0, ROW_OF_INTS, 2, 0);
            gaugeDue("the gauge stays", x, gauge, value);
            placeDue(x, ROW_OF_INTS, 2, INTS, -77);
            placeDue(x, ROW_OF_BYTES, 0, BYTES, -77);
            x = doneAlone(gauge, MOVE, ROW_OF_FINE, 0, ROW_OF_PLAIN, 0, 0);
            gaugeDue("the gauge stays", x, gauge, value);
            placeDue(x, ROW_OF_PLAIN, 0, FINE, 2);
            x = doneAlone(gauge, MOVE, ROW_OF_LINES, 0, ROW_OF_LINES, 1, 0);
            placeDue(x, ROW_OF_LINES, 1, LINES, 2);
            x = doneAlone(gauge, MOVE, ROW_OF_FINE, 1, ROW_OF_LINES, 0, 0);
            gaugeDue("the gauge stays", x, gauge, value);
            placeDue(x, ROW_OF_LINES, 0, NONE, 0);
        }
    }

    @Sentence(of = 20, says = "GETS place i of RACK a, and SETS it at place k of RACK b")
    static void stepMovesWithFaults() {
        for (int gauge : ALL_CONTENTS) {
            comesTo(gauge, MOVE, NOTHING, 0, A_PLAIN, 0, 1);
            comesTo(gauge, MOVE, A_PLAIN, 0, NOTHING, 0, 2);
            comesTo(gauge, MOVE, ROW_OF_INTS, 3, NOTHING, 0, 3);
            comesTo(gauge, MOVE, ROW_OF_INTS, -1, A_PLAIN, 0, 3);
            comesTo(gauge, MOVE, ROW_OF_INTS, 0, NOTHING, 7, 1);
            comesTo(gauge, MOVE, ROW_OF_INTS, 0, A_FINE, 7, 2);
            comesTo(gauge, MOVE, ROW_OF_FINE, 1, ROW_OF_INTS, 7, 2);
            comesTo(gauge, MOVE, ROW_OF_FINE, 1, ROW_OF_PLAIN, 7, 3);
            comesTo(gauge, MOVE, ROW_OF_INTS, 0, ROW_OF_BYTES, 1, 3);
            comesTo(gauge, MOVE, ROW_OF_INTS, 0, ROW_OF_BYTES, 0, 2);
            comesTo(gauge, MOVE, ROW_OF_PLAIN, 0, ROW_OF_FINE, 0, 2);
            comesTo(gauge, MOVE, ROW_OF_PLAIN, 0, ROW_OF_INTS, 0, 2);
            comesTo(gauge, MOVE, ROW_OF_LINES, 0, ROW_OF_PLAIN, 0, 2);
            comesTo(gauge, MOVE, ROW_OF_INTS, 0, ROW_OF_LINES, 0, 2);
        }
    }

    @Sentence(of = 20, says = "how many there are")
    static void stepsAreCounted() {
        ProbeRacks x = new ProbeRacks();
        for (int n = 1; n <= 12; n++) {
            due("step " + n, x.step(n % 6, n % 10, n - 2, 9 - n % 10, n % 8), n);
        }
        due("clear()", x.clear(), 12);
        due("the first again", x.step(0, 0, 0, 0, 0), 1);
    }

    @Sentence(of = 20, says = "UNKNOWN: a, b")
    static void stepOfNoRack() {
        for (int r : NO_RACKS) {
            for (int op = 0; op <= 5; op++) {
                int of = op;
                refused("step a, op " + op, INTS, x -> x.step(of, r, 0, 0, 0), UNKNOWN);
                refused("step b, op " + op, INTS, x -> x.step(of, 0, 0, r, 0), UNKNOWN);
            }
            refused("step a, all else wrong", INTS, x -> x.step(-1, r, -2, 0, -1), UNKNOWN);
            refused("step b, all else wrong", INTS, x -> x.step(6, 0, 17, r, 8), UNKNOWN);
        }
        due("step(5, 9, 0, 9, 0)", full(INTS).step(MOVE, 9, 0, 9, 0), 3);
    }

    @Sentence(of = 20, says = "OUTSIDE: op")
    static void stepOfNoOp() {
        for (int op : new int[] {-1, 6, BOTTOM, TOP}) {
            refused("step(" + op + ", ..)", INTS, x -> x.step(op, 0, 0, 0, 0), OUTSIDE);
        }
        for (int op = 0; op <= 5; op++) {
            due("step(" + op + ", ..)", full(INTS).step(op, 0, 0, 0, 0), 3);
        }
    }

    @Sentence(of = 20, says = "i not -1 .. 16")
    static void stepOfNoPlace() {
        for (int op = 0; op <= 5; op++) {
            int of = op;
            for (int i : new int[] {-2, 17, BOTTOM, TOP}) {
                refused("step(" + op + ", 0, " + i + ", ..)", INTS, x -> x.step(of, 0, i, 0, 0), OUTSIDE);
            }
            due("step(" + op + ", 0, -1, ..)", full(INTS).step(op, 0, -1, 0, 0), 3);
            due("step(" + op + ", 0, 16, ..)", full(INTS).step(op, 0, 16, 0, 0), 3);
        }
    }

    @Sentence(of = 20, says = "k not 0 .. 7")
    static void stepOfNoKind() {
        for (int op = 0; op <= 5; op++) {
            int of = op;
            for (int k : NO_KINDS) {
                refused("step(" + op + ", 0, 0, 0, " + k + ")", INTS, x -> x.step(of, 0, 0, 0, k), OUTSIDE);
            }
            due("step(" + op + ", 0, 0, 0, 0)", full(INTS).step(op, 0, 0, 0, 0), 3);
            due("step(" + op + ", 0, 0, 0, 7)", full(INTS).step(op, 0, 0, 0, 7), 3);
        }
    }

    @Sentence(of = 20, says = "FULL: 12.")
    static void stepsAreFull() {
        for (int op = 0; op <= 5; op++) {
            int of = op;
            refused("step 13, op " + op, EdgeStepTest::fullOfSteps, x -> x.step(of, 0, 0, 0, 0), FULL);
        }
        ProbeRacks x = fullOfSteps();
        x.run(false);
        due("step 13 after a run", x.step(0, 0, 0, 0, 0), FULL);
        due("clear()", x.clear(), 12);
    }

    private static ProbeRacks fullOfSteps() {
        ProbeRacks x = full(FINE);
        for (int n = 3; n <= 12; n++) {
            due("step " + n, x.step(GET, NOTHING, 0, 0, 0), n);
        }
        return x;
    }

    @Sentence(of = 20, says = "A STEP more")
    static void stepsAreNotDoneYet() {
        ProbeRacks x = full(PLAIN);
        x.clear();
        x.step(GET, ROW_OF_INTS, 0, 0, 0);
        x.step(GET, NOTHING, 0, 0, 0);
        due("clear()", x.clear(), 2);
        due("the faults", tellFaults(x), tellFaults(full(PLAIN)));
        due("the room", tellAll(x), fullWithoutSteps(PLAIN));
    }

    @Sentence(of = 21, says = "All STEPS are done in order")
    static void runInOrder() {
        for (boolean stops : new boolean[] {false, true}) {
            ProbeRacks x = full(NONE);
            x.clear();
            x.step(GET, ROW_OF_INTS, 0, 0, 0);
            x.step(SET, ROW_OF_INTS, 1, 0, 0);
            x.step(GET, ROW_OF_INTS, 2, 0, 0);
            x.step(SET, ROW_OF_INTS, 0, 0, 0);
            due("run(" + stops + ")", x.run(stops), 4);
            gaugeDue("the gauge", x, INTS, 7);
            placeDue(x, ROW_OF_INTS, 0, INTS, 7);
            placeDue(x, ROW_OF_INTS, 1, INTS, 5);
        }
    }

    @Sentence(of = 21, says = "All STEPS are done")
    static void runOfNoneAndOfTwelve() {
        ProbeRacks x = full(PLAIN);
        x.clear();
        due("run(true) of none", x.run(true), 0);
        due("run(false) of none", x.run(false), 0);
        due("the room", tellAll(x), fullWithoutSteps(PLAIN));
        for (boolean stops : new boolean[] {false, true}) {
            ProbeRacks y = full(PLAIN);
            y.clear();
            for (int n = 0; n < 12; n++) {
                y.step(GET, ROW_OF_INTS, 0, 0, 0);
            }
            due("run(" + stops + ") of twelve", y.run(stops), 12);
            for (int k = 0; k < 12; k++) {
                due("met(" + k + ")", y.met(k), 0);
            }
        }
    }

    /** Steps that set place 0 .. n - 1 of a row of shorts, but for one that comes to a fault. */
    private static ProbeRacks withFaultAt(int at, int n) {
        ProbeRacks x = new ProbeRacks();
        x.rack(0, SHORTS, 12);
        for (int k = 0; k < n; k++) {
            x.step(SET, k == at ? 1 : 0, k, 0, 0);
        }
        x.gauge(SHORTS, 9);
        return x;
    }

    @Sentence(of = 21, says = "up to the first that comes to a FAULT")
    static void runUpToTheFirst() {
        for (int at = 0; at < 12; at++) {
            ProbeRacks x = withFaultAt(at, 12);
            due("run(true) with a fault at " + at, x.run(true), at);
            for (int k = 0; k < 12; k++) {
                due("met(" + k + ")", x.met(k), k < at ? 0 : k == at ? 1 : NONE);
            }
            due("the faults", tellFaults(x), "1 of 1 1 0 0");
            for (int i = 0; i < 12; i++) {
                placeDue(x, 0, i, SHORTS, i < at ? 9 : 0);
            }
        }
    }

    @Sentence(of = 21, says = "(which counts as done, but what it changes stays as told)")
    static void runAStepWithAFault() {
        for (boolean stops : new boolean[] {false, true}) {
            ProbeRacks x = full(CHARS);
            x.clear();
            x.step(READ, ROW_OF_INTS, 0, 0, SHORTS);
            due("run(" + stops + ")", x.run(stops), 0);
            due("met(0)", x.met(0), 2);
            due("clear()", x.clear(), 1);
            due("the room", tellAll(x), fullWithoutSteps(CHARS));
        }
    }

    @Sentence(of = 21, says = "how many were done without.")
    static void runCountsThoseWithout() {
        for (int at = 0; at < 12; at++) {
            ProbeRacks x = withFaultAt(at, 12);
            due("run(false) with a fault at " + at, x.run(false), 11);
            due("run(true) with a fault at " + at, x.run(true), at);
        }
        ProbeRacks x = new ProbeRacks();
        for (int n = 0; n < 12; n++) {
            x.step(GET, 0, 0, 0, 0);
        }
        due("run(false) with faults alone", x.run(false), 0);
        due("run(true) with faults alone", x.run(true), 0);
        due("faults(0)", x.faults(0), 13);
    }

    @Sentence(of = 21, says = "stops: whether a FAULT ends it; else all are done.")
    static void runToTheEnd() {
        for (int at = 0; at < 12; at++) {
            ProbeRacks x = withFaultAt(at, 12);
            due("run(false) with a fault at " + at, x.run(false), 11);
            for (int k = 0; k < 12; k++) {
                due("met(" + k + ")", x.met(k), k == at ? 1 : 0);
            }
            for (int i = 0; i < 12; i++) {
                placeDue(x, 0, i, SHORTS, i == at ? 0 : 9);
            }
        }
    }

    @Sentence(of = 21, says = "The STEPS stay.")
    static void runLeavesTheSteps() {
        ProbeRacks x = withFaultAt(1, 3);
        due("run(true)", x.run(true), 1);
        due("run(false)", x.run(false), 2);
        due("run(true)", x.run(true), 1);
        x.rack(1, DOUBLES, 2);
        due("run(true) of the rack as it is now", x.run(true), 3);
        due("step 4", x.step(GET, 0, 0, 0, 0), 4);
        due("run(true)", x.run(true), 4);
        due("clear()", x.clear(), 4);
    }

    @Sentence(of = 22, says = "The FAULT of STEP k in the latest run(), 0 without")
    static void metOfTheLatest() {
        ProbeRacks x = full(PLAIN);
        x.clear();
        x.step(GET, NOTHING, 0, 0, 0);
        x.step(GET, A_PLAIN, 0, 0, 0);
        x.step(GET, ROW_OF_INTS, 3, 0, 0);
        x.step(GET, ROW_OF_INTS, 2, 0, 0);
        x.run(false);
        int[] met = {1, 2, 3, 0};
        for (int k = 0; k < 4; k++) {
            due("met(" + k + ")", x.met(k), met[k]);
            due("met(" + k + ") once more", x.met(k), met[k]);
        }
        x.get(NOTHING, 0);
        due("met(1) after another call's fault", x.met(1), 2);
        x.rack(NOTHING, BITS, 1);
        x.run(true);
        int[] metThen = {0, 2, NONE, NONE};
        for (int k = 0; k < 4; k++) {
            due("met(" + k + ") of the latest", x.met(k), metThen[k]);
        }
    }

    @Sentence(of = 22, says = "NONE: it was not done")
    static void metOfStepsNotDone() {
        ProbeRacks x = new ProbeRacks();
        x.step(GET, 0, 0, 0, 0);
        due("met(0) ahead of a run", x.met(0), NONE);
        x.run(true);
        x.step(GET, 0, 0, 0, 0);
        due("met(0)", x.met(0), 1);
        due("met(1) of a step that came later", x.met(1), NONE);
        x.run(false);
        due("met(1) after a run of all", x.met(1), 1);
        x.run(true);
        due("met(1) after a run that stopped", x.met(1), NONE);
    }

    @Sentence(of = 22, says = "or there is none such.")
    static void metOfNoStep() {
        for (int n = 0; n <= 12; n++) {
            ProbeRacks x = new ProbeRacks();
            x.rack(0, BITS, 1);
            for (int k = 0; k < n; k++) {
                x.step(GET, 0, 0, 0, 0);
            }
            x.run(false);
            due("met(" + (n - 1) + ")", x.met(n - 1), n == 0 ? NONE : 0);
            for (int k : new int[] {-1, n, 12, 13, BOTTOM, TOP}) {
                due("met(" + k + ")", x.met(k), NONE);
            }
        }
    }

    @Sentence(of = 23, says = "No STEPS: how many there were.")
    static void clearOfEachCount() {
        for (int n = 0; n <= 12; n++) {
            ProbeRacks x = new ProbeRacks();
            for (int k = 0; k < n; k++) {
                x.step(GET, 0, 0, 0, 0);
            }
            due("clear() of " + n, x.clear(), n);
            due("clear() once more", x.clear(), 0);
            due("run(false)", x.run(false), 0);
            due("no step was done", x.faults(0), 0);
            due("step", x.step(GET, 0, 0, 0, 0), 1);
        }
    }

    @Sentence(of = 23, says = "(What met() tells is gone, too.)")
    static void clearForgetsMet() {
        ProbeRacks x = withFaultAt(0, 12);
        x.run(false);
        x.clear();
        for (int k = 0; k < 12; k++) {
            due("met(" + k + ")", x.met(k), NONE);
        }
        for (int k = 0; k < 12; k++) {
            x.step(GET, 0, 0, 0, 0);
            due("met(" + k + ") of a new step", x.met(k), NONE);
        }
        due("fault() stays", x.fault(), 1);
    }

    @Sentence(of = 24, says = "The latest FAULT that a call or a STEP came to")
    static void faultOfTheLatest() {
        ProbeRacks x = full(INTS);
        x.clear();
        x.get(NOTHING, 0);
        due("fault() of get", x.fault(), 1);
        x.set(A_PLAIN, 0);
        due("fault() of set", x.fault(), 2);
        x.read(ROW_OF_INTS, 3, INTS);
        due("fault() of read", x.fault(), 3);
        x.write(NOTHING, 0, INTS);
        due("fault() of write", x.fault(), 1);
        x.size(A_FINE);
        due("fault() of size", x.fault(), 2);
        x.within(ROW_OF_LINES, 0, 2);
        due("fault() of within", x.fault(), 3);
        x.into(ROW_OF_LINES, 1, 0, 0);
        due("fault() of into", x.fault(), 1);
        x.pass(ROW_OF_INTS, A_LINE, INTS);
        due("fault() of pass", x.fault(), 3);
        x.takes(NOTHING);
        due("fault() of takes", x.fault(), 1);
        x.gives(NO_PLACES);
        due("fault() of gives", x.fault(), 3);
        x.step(GET, NOTHING, 0, 0, 0);
        x.step(GET, A_PLAIN, 0, 0, 0);
        x.step(GET, ROW_OF_INTS, 0, 0, 0);
        x.run(false);
        due("fault() of steps", x.fault(), 2);
        x.run(true);
        due("fault() of a step that stopped", x.fault(), 1);
    }

    @Sentence(of = 24, says = "(0: none yet)")
    static void noFaultYet() {
        ProbeRacks x = new ProbeRacks();
        due("fault()", x.fault(), 0);
        x.rack(10, 0, 0);
        x.rack(0, 11, 0);
        x.hang(0);
        x.gauge(8, 0);
        x.read(0, 0, 8);
        x.write(0, 0, 0);
        x.met(0);
        x.faults(9);
        x.run(true);
        x.told(0);
        x.same(0);
        due("fault() after other answers", x.fault(), 0);
        due("faults(0) after other answers", x.faults(0), 0);
    }

    @Sentence(of = 24, says = "The latest FAULT")
    static void faultStays() {
        ProbeRacks x = full(INTS);
        x.get(A_PLAIN, 0);
        x.get(ROW_OF_INTS, 0);
        x.rack(10, 0, 0);
        x.clear();
        x.run(false);
        x.none();
        due("fault()", x.fault(), 2);
        due("fault() once more", x.fault(), 2);
    }

    @Sentence(of = 25, says = "How many FAULTS of a number 1 .. 3 there were; of 0 all together")
    static void faultsAreCounted() {
        ProbeRacks x = new ProbeRacks();
        x.rack(1, INTS, 1);
        x.probe(true);
        x.hang(2);
        for (int n = 1; n <= 50; n++) {
            x.get(0, 0);
            x.get(1, 1);
            x.get(1, 1);
            x.get(2, 0);
            x.get(2, 0);
            x.get(2, 0);
            due("faults(1)", x.faults(1), n);
            due("faults(2)", x.faults(2), 3 * n);
            due("faults(3)", x.faults(3), 2 * n);
            due("faults(0)", x.faults(0), 6 * n);
        }
    }

    @Sentence(of = 25, says = "How many FAULTS of a number")
    static void faultsOfStepsAndOfPass() {
        ProbeRacks x = new ProbeRacks();
        x.rack(1, INTS, 2);
        x.step(GET, 0, 0, 0, 0);
        x.step(GET, 1, 2, 0, 0);
        x.step(SET, 1, 2, 0, 0);
        x.run(false);
        due("the faults of all steps", tellFaults(x), "2 of 3 1 1 1");
        x.run(true);
        due("the faults with those of a run that stopped", tellFaults(x), "1 of 4 2 1 1");
        x.pass(1, 0, INTS);
        due("the faults with the one of a pass", tellFaults(x), "1 of 5 3 1 1");
        x.clear();
        due("the faults after clear()", tellFaults(x), "1 of 5 3 1 1");
    }

    @Sentence(of = 25, says = "of 0 all together; NONE.")
    static void faultsOfNoNumber() {
        for (int of : new int[] {-1, 4, NONE, BOTTOM, TOP}) {
            alwaysRefused("faults(" + of + ")", x -> x.faults(of), NONE);
        }
        for (int of = 0; of <= 3; of++) {
            due("faults(" + of + ")", new ProbeRacks().faults(of), 0);
        }
    }
}
