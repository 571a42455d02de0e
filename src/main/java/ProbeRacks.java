/** Racks of rows, probes and lines, and a gauge that reads and writes their places as any kind. */
public final class ProbeRacks {
    public static final int UNKNOWN = -1, OUTSIDE = -2, STATE = -3, FULL = -4, NONE = -9;

    private static final int BITS = 0, BYTES = 1, CHARS = 2, SHORTS = 3, INTS = 4, LONGS = 5, FLOATS = 6;
    private static final int PLAIN = 8, FINE = 9, LINES = 10;
    private static final int NUMBER_KINDS = 8, ROW_KINDS = 11;

    private static final int NO_FAULT = 0, NULL_FAULT = 1, KIND_FAULT = 2, INDEX_FAULT = 3, FAULT_KINDS = 3;
    private static final int FAULT_BASE = -10;

    private static final int GET = 0, SET = 1, READ = 2, WRITE = 3, WITHIN = 4, MOVE = 5;

    private static final int ALL_RACKS = 10, MOST_PLACES = 16, MOST_IN_LINE = 4, MOST_PROBES = 40, MOST_STEPS = 12;

    private static final int TOLD_PLAIN = 11, TOLD_FINE = 12;

    // Bit k of entry h: what the gauge tells as h may stand where kind k is asked for.
    private static final int[] GOES_INTO = {
        0b000_0000_0001, // bits
        0b000_1111_1010, // bytes
        0b000_1111_0100, // chars
        0b000_1111_1000, // shorts
        0b000_1111_0000, // ints
        0b000_1110_0000, // longs
        0b000_1100_0000, // floats
        0b000_1000_0000, // doubles
        0b001_0000_0000, // plain probes
        0b011_0000_0000, // fine probes, which are plain ones too
        0b100_0000_0000, // lines
    };

    private final Thing[] racks;
    private final Held inGauge;
    // What an act has on its way while the gauge stays.
    private final Held inHand;
    private final Step[] steps;
    // Entry 0 counts all faults together.
    private final int[] faultCounts;
    private int stepCount;
    private int probeCount;
    private int latestFault;

    public ProbeRacks() {
        racks = new Thing[ALL_RACKS];
        inGauge = new Held();
        inHand = new Held();
        steps = new Step[MOST_STEPS];
        for (int k = 0; k < MOST_STEPS; k++) {
            steps[k] = new Step();
        }
        faultCounts = new int[FAULT_KINDS + 1];
    }

    public int rack(int rack, int kind, int n) {
        if (!isRack(rack)) {
            return UNKNOWN;
        }
        if (kind < 0 || kind >= ROW_KINDS || n < 0 || n > MOST_PLACES) {
            return OUTSIDE;
        }
        if (isNumberKind(kind)) {
            racks[rack] = new NumberRow(kind, n);
        } else {
            racks[rack] = new ThingRow(kind, n);
        }
        return n;
    }

    public int hang(int rack) {
        if (!isRack(rack)) {
            return UNKNOWN;
        }
        if (inGauge.thing == null) {
            return STATE;
        }
        racks[rack] = inGauge.thing;
        return 1;
    }

    public int share(int rack, int from) {
        if (!isRack(rack) || !isRack(from)) {
            return UNKNOWN;
        }
        racks[rack] = racks[from];
        return 1;
    }

    public int empty(int rack) {
        if (!isRack(rack)) {
            return UNKNOWN;
        }
        racks[rack] = null;
        return 1;
    }

    public int gauge(int kind, long v) {
        if (!isNumberKind(kind)) {
            return OUTSIDE;
        }
        inGauge.holdNumber(kind, v);
        return 1;
    }

    public int probe(boolean fine) {
        if (probeCount >= MOST_PROBES) {
            return FULL;
        }
        probeCount++;
        inGauge.holdThing(new Probe(probeCount, fine));
        return probeCount;
    }

    public int line(int n) {
        if (n < 0 || n > MOST_IN_LINE) {
            return OUTSIDE;
        }
        inGauge.holdThing(new NumberRow(INTS, n));
        return 1;
    }

    public int none() {
        inGauge.holdThing(null);
        return 1;
    }

    public int get(int rack, int i) {
        if (!isRack(rack)) {
            return UNKNOWN;
        }
        int fault = getPlace(racks[rack], i, inGauge);
        return answer(fault, inGauge.kind);
    }

    public int set(int rack, int i) {
        if (!isRack(rack)) {
            return UNKNOWN;
        }
        return answer(setPlace(racks[rack], i, inGauge), 1);
    }

    public int read(int rack, int i, int as) {
        if (!isRack(rack)) {
            return UNKNOWN;
        }
        if (!isNumberKind(as)) {
            return OUTSIDE;
        }
        return answer(readPlace(racks[rack], i, as, inGauge), 1);
    }

    public int write(int rack, int i, int as) {
        if (!isRack(rack)) {
            return UNKNOWN;
        }
        if (!isNumberKind(as)) {
            return OUTSIDE;
        }
        if (!isNumberKind(inGauge.kind)) {
            return STATE;
        }
        return answer(writePlace(racks[rack], i, as, inGauge.amount), 1);
    }

    public int size(int rack) {
        if (!isRack(rack)) {
            return UNKNOWN;
        }
        return answer(rowFault(racks[rack]), placesOf(racks[rack]));
    }

    public int within(int rack, int i, int j) {
        if (!isRack(rack)) {
            return UNKNOWN;
        }
        return answer(readWithin(racks[rack], i, j), 1);
    }

    public int into(int rack, int i, int j, int v) {
        if (!isRack(rack)) {
            return UNKNOWN;
        }
        return answer(writeWithin(racks[rack], i, j, v), 1);
    }

    public int pass(int rack, int to, int as) {
        if (!isRack(rack) || !isRack(to)) {
            return UNKNOWN;
        }
        if (!isNumberKind(as)) {
            return OUTSIDE;
        }
        int fault = rowFault(racks[rack]);
        if (fault != NO_FAULT) {
            return answer(fault, 0);
        }
        int places = placesOf(racks[rack]);
        for (int i = 0; i < places; i++) {
            fault = passPlace(racks[rack], racks[to], i, as);
            if (fault != NO_FAULT) {
                countFault(fault);
                return i;
            }
        }
        return places;
    }

    public int takes(int rack) {
        if (!isRack(rack)) {
            return UNKNOWN;
        }
        return answer(placeFault(racks[rack], 0), kindsTaken(racks[rack]));
    }

    public int gives(int rack) {
        if (!isRack(rack)) {
            return UNKNOWN;
        }
        return answer(placeFault(racks[rack], 0), kindsGiven(racks[rack]));
    }

    public int step(int op, int a, int i, int b, int k) {
        if (!isRack(a) || !isRack(b)) {
            return UNKNOWN;
        }
        if (op < GET || op > MOVE || i < -1 || i > MOST_PLACES || !isNumberKind(k)) {
            return OUTSIDE;
        }
        if (stepCount >= MOST_STEPS) {
            return FULL;
        }
        steps[stepCount].become(op, a, i, b, k);
        stepCount++;
        return stepCount;
    }

    public int run(boolean stops) {
        forgetRun();
        int without = 0;
        for (int k = 0; k < stepCount; k++) {
            int fault = doStep(steps[k]);
            steps[k].outcome = fault;
            if (fault == NO_FAULT) {
                without++;
            } else {
                countFault(fault);
                if (stops) {
                    return without;
                }
            }
        }
        return without;
    }

    public int met(int k) {
        return k < 0 || k >= stepCount ? NONE : steps[k].outcome;
    }

    public int clear() {
        int before = stepCount;
        stepCount = 0;
        return before;
    }

    public int fault() {
        return latestFault;
    }

    public int faults(int of) {
        return of < 0 || of > FAULT_KINDS ? NONE : faultCounts[of];
    }

    public int has() {
        return inGauge.kind;
    }

    public long value() {
        return inGauge.amount;
    }

    public int told(int rack) {
        if (!isRack(rack)) {
            return UNKNOWN;
        }
        if (racks[rack] instanceof Row row) {
            return row.kind;
        }
        if (racks[rack] instanceof Probe probe) {
            return probe.fine ? TOLD_FINE : TOLD_PLAIN;
        }
        return NONE;
    }

    public int same(int rack) {
        if (!isRack(rack)) {
            return UNKNOWN;
        }
        if (racks[rack] == null) {
            return 0;
        }
        int count = 0;
        for (int r = 0; r < ALL_RACKS; r++) {
            if (racks[r] == racks[rack]) {
                count++;
            }
        }
        return count;
    }

    private static boolean isRack(int rack) {
        return rack >= 0 && rack < ALL_RACKS;
    }

    private static boolean isNumberKind(int kind) {
        return kind >= 0 && kind < NUMBER_KINDS;
    }

    private static boolean goesInto(int kind, int other) {
        return kind >= 0 && kind < ROW_KINDS && (GOES_INTO[kind] >> other & 1) == 1;
    }

    // A FLOAT or DOUBLE of 2^63 is kept as 2^63 - 1, which is cast to 2^63 again: no number is lost by keeping longs.
    private static long asKind(int kind, long v) {
        switch (kind) {
            case BITS:
                return v != 0 ? 1 : 0;
            case BYTES:
                return (byte) v;
            case CHARS:
                return (char) v;
            case SHORTS:
                return (short) v;
            case INTS:
                return (int) v;
            case LONGS:
                return v;
            case FLOATS:
                return (long) (float) v;
            default:
                return (long) (double) v;
        }
    }

    private int answer(int fault, int without) {
        if (fault == NO_FAULT) {
            return without;
        }
        countFault(fault);
        return FAULT_BASE - fault;
    }

    private void countFault(int fault) {
        latestFault = fault;
        faultCounts[fault]++;
        faultCounts[0]++;
    }

    private static int rowFault(Thing thing) {
        if (thing == null) {
            return NULL_FAULT;
        }
        return thing instanceof Row ? NO_FAULT : KIND_FAULT;
    }

    private static int placeFault(Thing thing, int i) {
        int fault = rowFault(thing);
        if (fault != NO_FAULT) {
            return fault;
        }
        return i < 0 || i >= placesOf(thing) ? INDEX_FAULT : NO_FAULT;
    }

    private static int placesOf(Thing thing) {
        return thing instanceof Row row ? row.places : 0;
    }

    private static int getPlace(Thing thing, int i, Held held) {
        int fault = placeFault(thing, i);
        if (fault != NO_FAULT) {
            return fault;
        }
        if (thing instanceof NumberRow row) {
            held.holdNumber(row.kind, row.numbers[i]);
        } else if (thing instanceof ThingRow rowOfThings) {
            held.holdThing(rowOfThings.things[i]);
        }
        return NO_FAULT;
    }

    private static int setPlace(Thing thing, int i, Held held) {
        if (thing == null) {
            return NULL_FAULT;
        }
        if (thing instanceof NumberRow row) {
            return setNumber(row, i, held);
        }
        if (thing instanceof ThingRow rowOfThings) {
            return setThing(rowOfThings, i, held);
        }
        return KIND_FAULT;
    }

    private static int setNumber(NumberRow row, int i, Held held) {
        // That there is nothing to set is a fault ahead of the place.
        if (held.kind == NONE) {
            return KIND_FAULT;
        }
        return writePlace(row, i, held.kind, held.amount);
    }

    private static int setThing(ThingRow row, int i, Held held) {
        if (i < 0 || i >= row.places) {
            return INDEX_FAULT;
        }
        if (held.kind != NONE && !goesInto(held.kind, row.kind)) {
            return KIND_FAULT;
        }
        row.things[i] = held.thing;
        return NO_FAULT;
    }

    private static int readPlace(Thing thing, int i, int as, Held held) {
        if (thing == null) {
            return NULL_FAULT;
        }
        if (thing instanceof NumberRow row) {
            if (i < 0 || i >= row.places) {
                return INDEX_FAULT;
            }
            if (!goesInto(row.kind, as)) {
                return KIND_FAULT;
            }
            held.holdNumber(as, row.numbers[i]);
            return NO_FAULT;
        }
        return KIND_FAULT;
    }

    private static int writePlace(Thing thing, int i, int as, long v) {
        if (thing == null) {
            return NULL_FAULT;
        }
        if (thing instanceof NumberRow row) {
            if (i < 0 || i >= row.places) {
                return INDEX_FAULT;
            }
            if (!goesInto(as, row.kind)) {
                return KIND_FAULT;
            }
            row.numbers[i] = asKind(row.kind, asKind(as, v));
            return NO_FAULT;
        }
        return KIND_FAULT;
    }

    private int readWithin(Thing thing, int i, int j) {
        int fault = takeInner(thing, i);
        return fault != NO_FAULT ? fault : readPlace(inHand.thing, j, LONGS, inGauge);
    }

    private int writeWithin(Thing thing, int i, int j, int v) {
        int fault = takeInner(thing, i);
        return fault != NO_FAULT ? fault : writePlace(inHand.thing, j, INTS, v);
    }

    private int takeInner(Thing thing, int i) {
        int fault = getPlace(thing, i, inHand);
        if (fault != NO_FAULT) {
            return fault;
        }
        return isNumberKind(inHand.kind) ? KIND_FAULT : NO_FAULT;
    }

    private int passPlace(Thing from, Thing to, int i, int as) {
        int fault = readPlace(from, i, as, inHand);
        return fault != NO_FAULT ? fault : writePlace(to, i, as, inHand.amount);
    }

    private int movePlace(Thing from, int i, Thing to, int k) {
        int fault = getPlace(from, i, inHand);
        return fault != NO_FAULT ? fault : setPlace(to, k, inHand);
    }

    private static int kindsTaken(Thing thing) {
        int kinds = 0;
        if (thing instanceof NumberRow row) {
            for (int k = 0; k < NUMBER_KINDS; k++) {
                if (goesInto(k, row.kind)) {
                    kinds |= 1 << k;
                }
            }
        }
        return kinds;
    }

    private static int kindsGiven(Thing thing) {
        int kinds = 0;
        if (thing instanceof NumberRow row) {
            for (int k = 0; k < NUMBER_KINDS; k++) {
                if (goesInto(row.kind, k)) {
                    kinds |= 1 << k;
                }
            }
        }
        return kinds;
    }

    private void forgetRun() {
        for (int k = 0; k < stepCount; k++) {
            steps[k].outcome = NONE;
        }
    }

    private int doStep(Step step) {
        Thing thing = racks[step.a];
        switch (step.op) {
            case GET:
                return getPlace(thing, step.i, inGauge);
            case SET:
                return setPlace(thing, step.i, inGauge);
            case READ:
                return readPlace(thing, step.i, step.k, inGauge);
            case WRITE:
                if (!isNumberKind(inGauge.kind)) {
                    return NO_FAULT;
                }
                return writePlace(thing, step.i, step.k, inGauge.amount);
            case WITHIN:
                return readWithin(thing, step.i, step.k);
            default:
                return movePlace(thing, step.i, racks[step.b], step.k);
        }
    }

    /** What a rack can have. */
    private abstract static class Thing {
    }

    private static final class Probe extends Thing {
        private final int number;
        private final boolean fine;

        private Probe(int number, boolean fine) {
            this.number = number;
            this.fine = fine;
        }
    }

    private abstract static class Row extends Thing {
        final int kind;
        final int places;

        Row(int kind, int places) {
            this.kind = kind;
            this.places = places;
        }
    }

    /** A row of numbers; a line is one of ints, and the only row that a gauge or a place can have. */
    private static final class NumberRow extends Row {
        private final long[] numbers;

        private NumberRow(int kind, int places) {
            super(kind, places);
            numbers = new long[places];
        }
    }

    private static final class ThingRow extends Row {
        private final Thing[] things;

        private ThingRow(int kind, int places) {
            super(kind, places);
            things = new Thing[places];
        }
    }

    /** What one has: kind and amount are what has() and value() tell of it. */
    private static final class Held {
        private int kind;
        private long amount;
        private Thing thing;

        private Held() {
            kind = NONE;
        }

        private void holdNumber(int newKind, long v) {
            kind = newKind;
            amount = asKind(newKind, v);
            thing = null;
        }

        private void holdThing(Thing newThing) {
            thing = newThing;
            if (newThing instanceof Probe probe) {
                kind = probe.fine ? FINE : PLAIN;
                amount = probe.number;
            } else if (newThing instanceof Row row) {
                kind = LINES;
                amount = row.places;
            } else {
                kind = NONE;
                amount = 0;
            }
        }
    }

    private static final class Step {
        private int op;
        private int a;
        private int i;
        private int b;
        private int k;
        // The fault of the latest run, 0 without; NONE if that did not do the step.
        private int outcome;

        private void become(int newOp, int newA, int newI, int newB, int newK) {
            op = newOp;
            a = newA;
            i = newI;
            b = newB;
            k = newK;
            outcome = NONE;
        }
    }
}
