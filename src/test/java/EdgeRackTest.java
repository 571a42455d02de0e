/** The boundary cases of the promises of racks: 1 to 5, 14, 28 and 29. */
public final class EdgeRackTest extends Room {
    public static void main(String[] args) throws IllegalAccessException {
        runAllOf(EdgeRackTest.class);
    }

    @Sentence(of = 1, says = "RACKS with NOTHING")
    static void newRacks() {
        for (int r = 0; r < 10; r++) {
            ProbeRacks x = new ProbeRacks();
            due("told(" + r + ")", x.told(r), NONE);
            due("same(" + r + ")", x.same(r), 0);
            due("size(" + r + ")", x.size(r), NULL);
        }
    }

    @Sentence(of = 1, says = "a GAUGE with nothing")
    static void newGauge() {
        ProbeRacks x = new ProbeRacks();
        gaugeDue("at first", x, NONE, 0);
        due("hang(0)", x.hang(0), STATE);
        due("write(0, 0, 4)", x.write(0, 0, INTS), STATE);
    }

    @Sentence(of = 1, says = "no PROBES, no STEPS")
    static void newProbesAndSteps() {
        ProbeRacks x = new ProbeRacks();
        for (int k = -1; k <= 12; k++) {
            due("met(" + k + ")", x.met(k), NONE);
        }
        due("run(true)", x.run(true), 0);
        due("run(false)", x.run(false), 0);
        due("clear()", x.clear(), 0);
        due("probe(true)", x.probe(true), 1);
        due("the faults", tellFaults(x), "0 of 0 0 0 0");
    }

    @Sentence(of = 1, says = "`ProbeRacks()`")
    static void newObjectsShareNothing() {
        ProbeRacks used = full(INTS);
        ProbeRacks x = new ProbeRacks();
        due("the faults of a new room", tellFaults(x), "0 of 0 0 0 0");
        due("a new room", tellAll(x), tellAll(new ProbeRacks()));
        due("the used room", tellAll(used), tellAll(full(INTS)));
    }

    @Sentence(of = 2, says = "A RACK has a new ROW of n places: n.")
    static void rackOfEachLength() {
        for (int kind = 0; kind <= 10; kind++) {
            for (int n = 0; n <= 16; n++) {
                ProbeRacks x = full(PLAIN);
                due("rack(9, " + kind + ", " + n + ")", x.rack(9, kind, n), n);
                gaugeDue("the gauge stays", x, PLAIN, 1);
                due("told(9)", x.told(9), kind);
                due("size(9)", x.size(9), n);
                due("same(9)", x.same(9), 1);
                due("get(9, " + n + ")", x.get(9, n), INDEX);
                if (n > 0) {
                    placeDue(x, 9, n - 1, kind < PLAIN ? kind : NONE, 0);
                }
            }
        }
    }

    @Sentence(of = 2, says = "A RACK has a new ROW")
    static void rackAtARackThatHasOne() {
        ProbeRacks x = full(NONE);
        x.share(NOTHING, ROW_OF_INTS);
        due("rack(0, 4, 3)", x.rack(ROW_OF_INTS, INTS, 3), 3);
        placeDue(x, ROW_OF_INTS, 0, INTS, 0);
        placeDue(x, NOTHING, 0, INTS, 5);
        due("same(0)", x.same(ROW_OF_INTS), 1);
        due("rack at a probe", x.rack(A_PLAIN, BITS, 1), 1);
        due("told(4)", x.told(A_PLAIN), BITS);
        placeDue(x, ROW_OF_PLAIN, 0, PLAIN, 1);
    }

    @Sentence(of = 2, says = "UNKNOWN; OUTSIDE: kind is not 0 .. 10")
    static void rackOfNoKind() {
        for (int kind : new int[] {-1, 11, BOTTOM, TOP}) {
            refused("rack(0, " + kind + ", 1)", INTS, x -> x.rack(ROW_OF_INTS, kind, 1), OUTSIDE);
            refused("rack(9, " + kind + ", 17)", INTS, x -> x.rack(NOTHING, kind, 17), OUTSIDE);
            refused("rack(10, " + kind + ", 1)", INTS, x -> x.rack(10, kind, 1), UNKNOWN);
        }
    }

    @Sentence(of = 2, says = "n not 0 .. 16")
    static void rackOfNoLength() {
        for (int n : new int[] {-1, 17, BOTTOM, TOP}) {
            for (int kind = 0; kind <= 10; kind++) {
                int of = kind;
                refused("rack(0, " + kind + ", " + n + ")", FINE, x -> x.rack(ROW_OF_INTS, of, n), OUTSIDE);
            }
        }
    }

    @Sentence(of = 3, says = "A RACK has what the GAUGE has: a PROBE")
    static void hangAProbe() {
        ProbeRacks x = full(FINE);
        due("hang(9)", x.hang(NOTHING), 1);
        gaugeDue("the gauge stays", x, FINE, 2);
        due("told(9)", x.told(NOTHING), 12);
        due("same(9)", x.same(NOTHING), 2);
        due("hang at a row", x.hang(ROW_OF_INTS), 1);
        due("same(9)", x.same(NOTHING), 3);
        due("hang once more", x.hang(ROW_OF_INTS), 1);
        due("same(9)", x.same(NOTHING), 3);
    }

    @Sentence(of = 3, says = "or a LINE (which is a ROW of INTS then): 1.")
    static void hangALine() {
        for (int n = 0; n <= 4; n++) {
            ProbeRacks x = new ProbeRacks();
            x.line(n);
            due("hang(0)", x.hang(0), 1);
            gaugeDue("the gauge stays", x, LINES, n);
            due("told(0)", x.told(0), INTS);
            due("size(0)", x.size(0), n);
            due("takes(0)", x.takes(0), n == 0 ? INDEX : 0b11110);
            due("gives(0)", x.gives(0), n == 0 ? INDEX : 0b11110000);
        }
        ProbeRacks x = full(LINES);
        due("hang(9)", x.hang(NOTHING), 1);
        due("same(9)", x.same(NOTHING), 2);
        x.gauge(SHORTS, 44);
        due("set(9, 1)", x.set(NOTHING, 1), 1);
        due("the line at a place is that one", x.within(ROW_OF_LINES, 0, 1), 1);
        due("value()", x.value(), 44);
    }

    @Sentence(of = 3, says = "UNKNOWN; STATE: it has none of these.")
    static void hangNoneOfThese() {
        for (int gauge = 0; gauge < 8; gauge++) {
            refused("hang(0)", gauge, x -> x.hang(ROW_OF_INTS), STATE);
            refused("hang(10)", gauge, x -> x.hang(10), UNKNOWN);
        }
        refused("hang(0)", NONE, x -> x.hang(ROW_OF_INTS), STATE);
        refused("hang(9)", NONE, x -> x.hang(NOTHING), STATE);
        refused("hang(-1)", NONE, x -> x.hang(-1), UNKNOWN);
    }

    @Sentence(of = 4, says = "A RACK has what another one has: 1.")
    static void shareAllThings() {
        int[] told = {INTS, LINES, PLAIN, FINE, 11, 12, INTS, LONGS, BYTES, NONE};
        for (int from = 0; from < 10; from++) {
            for (int rack = 0; rack < 10; rack++) {
                ProbeRacks x = full(LINES);
                due("share(" + rack + ", " + from + ")", x.share(rack, from), 1);
                due("told(" + rack + ")", x.told(rack), told[from]);
                due("same(" + from + ")", x.same(from), from == NOTHING ? 0 : rack == from ? 1 : 2);
                gaugeDue("the gauge stays", x, LINES, 2);
            }
        }
    }

    @Sentence(of = 4, says = "A RACK has what another one has")
    static void shareIsNoCopy() {
        ProbeRacks x = full(SHORTS);
        x.share(NOTHING, ROW_OF_INTS);
        x.set(NOTHING, 2);
        placeDue(x, ROW_OF_INTS, 2, INTS, 300);
        x.empty(ROW_OF_INTS);
        placeDue(x, NOTHING, 2, INTS, 300);
    }

    @Sentence(of = 4, says = "UNKNOWN.")
    static void shareUnknown() {
        for (int r : NO_RACKS) {
            refused("share(" + r + ", 0)", INTS, x -> x.share(r, 0), UNKNOWN);
            refused("share(0, " + r + ")", INTS, x -> x.share(0, r), UNKNOWN);
            refused("share(" + r + ", " + r + ")", INTS, x -> x.share(r, r), UNKNOWN);
        }
    }

    @Sentence(of = 5, says = "A RACK has NOTHING: 1.")
    static void emptyAllThings() {
        for (int rack = 0; rack < 10; rack++) {
            ProbeRacks x = full(LINES);
            due("empty(" + rack + ")", x.empty(rack), 1);
            due("told(" + rack + ")", x.told(rack), NONE);
            due("size(" + rack + ")", x.size(rack), NULL);
            gaugeDue("the gauge stays", x, LINES, 2);
            due("empty(" + rack + ") once more", x.empty(rack), 1);
        }
        ProbeRacks x = full(NONE);
        x.share(NOTHING, ROW_OF_INTS);
        x.empty(ROW_OF_INTS);
        due("what another one has stays", x.size(NOTHING), 3);
    }

    @Sentence(of = 5, says = "UNKNOWN.")
    static void emptyUnknown() {
        for (int r : NO_RACKS) {
            refused("empty(" + r + ")", INTS, x -> x.empty(r), UNKNOWN);
        }
    }

    @Sentence(of = 14, says = "How many places a RACK's ROW (a LINE) has.")
    static void sizeOfRows() {
        for (int kind = 0; kind <= 10; kind++) {
            ProbeRacks x = new ProbeRacks();
            x.rack(0, kind, 0);
            due("size(0)", x.size(0), 0);
            x.rack(0, kind, 16);
            due("size(0)", x.size(0), 16);
        }
        ProbeRacks x = new ProbeRacks();
        x.line(0);
        x.hang(0);
        due("size of a line of 0", x.size(0), 0);
        x.line(4);
        x.hang(0);
        due("size of a line of 4", x.size(0), 4);
        due("fault()", x.fault(), 0);
    }

    @Sentence(of = 14, says = "UNKNOWN; FAULTS: NULL, KIND: no ROW.")
    static void sizeOfNoRow() {
        alwaysRefused("size of nothing", x -> x.size(NOTHING), NULL);
        alwaysRefused("size of a plain probe", x -> x.size(A_PLAIN), KIND);
        alwaysRefused("size of a fine probe", x -> x.size(A_FINE), KIND);
        alwaysRefused("size of no rack", x -> x.size(10), UNKNOWN);
    }

    @Sentence(of = 28, says = "0 .. 10 a ROW (a LINE is 4)")
    static void toldOfRows() {
        ProbeRacks x = new ProbeRacks();
        for (int kind = 0; kind <= 10; kind++) {
            x.rack(0, kind, 0);
            due("told(0) of none", x.told(0), kind);
            x.rack(0, kind, 16);
            due("told(0) of 16", x.told(0), kind);
        }
        for (int n = 0; n <= 4; n++) {
            x.line(n);
            x.hang(0);
            due("told(0) of a line", x.told(0), 4);
        }
    }

    @Sentence(of = 28, says = "11 a PLAIN PROBE, 12 a FINE one; NONE: NOTHING. UNKNOWN.")
    static void toldOfNoRows() {
        ProbeRacks x = full(INTS);
        due("told of a plain probe", x.told(A_PLAIN), 11);
        due("told of a fine probe", x.told(A_FINE), 12);
        due("told of nothing", x.told(NOTHING), NONE);
        for (int r : NO_RACKS) {
            refused("told(" + r + ")", INTS, y -> y.told(r), UNKNOWN);
        }
        refused("told(9)", INTS, y -> y.told(NOTHING), NONE);
    }

    @Sentence(of = 29, says = "How many RACKS have just what a RACK has (itself too)")
    static void sameThings() {
        ProbeRacks x = new ProbeRacks();
        x.rack(0, INTS, 0);
        for (int r = 1; r < 10; r++) {
            x.rack(r, INTS, 0);
            due("same(0) with rows that are like it", x.same(0), 1);
        }
        for (int r = 1; r < 10; r++) {
            x.share(r, 0);
            due("same(0)", x.same(0), r + 1);
            due("same(" + r + ")", x.same(r), r + 1);
        }
        x.probe(false);
        x.hang(3);
        x.probe(false);
        x.hang(6);
        due("same of a probe", x.same(3), 1);
        x.hang(3);
        due("same of the other probe", x.same(3), 2);
        due("same of the row", x.same(0), 8);
        x.line(2);
        x.hang(1);
        x.line(2);
        x.hang(2);
        due("same of a line", x.same(1), 1);
    }

    @Sentence(of = 29, says = "0: NOTHING. UNKNOWN.")
    static void sameOfNothing() {
        due("same(0) of nine more with nothing", new ProbeRacks().same(0), 0);
        refused("same(9)", INTS, x -> x.same(NOTHING), 0);
        for (int r : NO_RACKS) {
            refused("same(" + r + ")", INTS, x -> x.same(r), UNKNOWN);
        }
    }
}
