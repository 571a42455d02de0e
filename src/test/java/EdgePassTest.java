/** The boundary cases of the promises of rows as a whole: 17 to 19. */
public final class EdgePassTest extends Room {
    public static void main(String[] args) throws IllegalAccessException {
        runAllOf(EdgePassTest.class);
    }

    private static void rowDue(ProbeRacks x, int rack, int kind, long... values) {
        due("size(" + rack + ")", x.size(rack), values.length);
        for (int i = 0; i < values.length; i++) {
            placeDue(x, rack, i, kind, values[i]);
        }
    }

    @Sentence(of = 17, says = "All places of a RACK from 0 on are READ AS a KIND")
    static void passAllPlaces() {
        for (int gauge : ALL_CONTENTS) {
            ProbeRacks x = full(gauge);
            long value = x.value();
            rowOf(x, NO_PLACES, SHORTS, 1, -2, 3, -4, 5, -6, 7, -8, 9, -10, 11, -12, 13, -14, 15, -16);
            x.rack(NOTHING, DOUBLES, 16);
            fillGauge(x, gauge);
            for (int as : new int[] {SHORTS, INTS, LONGS, FLOATS, DOUBLES}) {
                due("pass(7, 9, " + as + ")", x.pass(NO_PLACES, NOTHING, as), 16);
            }
            gaugeDue("the gauge stays", x, gauge, value);
            rowDue(x, NOTHING, DOUBLES, 1, -2, 3, -4, 5, -6, 7, -8, 9, -10, 11, -12, 13, -14, 15, -16);
            rowDue(x, NO_PLACES, SHORTS, 1, -2, 3, -4, 5, -6, 7, -8, 9, -10, 11, -12, 13, -14, 15, -16);
        }
    }

    @Sentence(of = 17, says = "READ AS a KIND, and each is WRITTEN so at its place of another RACK")
    static void passByWayOfTheKind() {
        ProbeRacks x = new ProbeRacks();
        rowOf(x, 0, LONGS, (1L << 24) + 1, (1L << 53) + 1, Long.MAX_VALUE);
        x.rack(1, DOUBLES, 3);
        due("pass(0, 1, 6)", x.pass(0, 1, FLOATS), 3);
        rowDue(x, 1, DOUBLES, 1L << 24, 1L << 53, Long.MAX_VALUE);
        due("pass(0, 1, 7)", x.pass(0, 1, DOUBLES), 3);
        rowDue(x, 1, DOUBLES, (1L << 24) + 1, 1L << 53, Long.MAX_VALUE);
        due("pass(0, 1, 5)", x.pass(0, 1, LONGS), 3);
        rowDue(x, 1, DOUBLES, (1L << 24) + 1, 1L << 53, Long.MAX_VALUE);
    }

    @Sentence(of = 17, says = "at its place of another RACK, up to the first FAULT: how many were written.")
    static void passToOtherLengths() {
        for (int to = 0; to <= 16; to++) {
            ProbeRacks x = new ProbeRacks();
            rowOf(x, 0, BYTES, 1, 2, 3, 4, 5, 6, 7, 8);
            x.rack(1, INTS, to);
            due("pass(0, 1, 3)", x.pass(0, 1, SHORTS), Math.min(to, 8));
            due("fault()", x.fault(), to < 8 ? 3 : 0);
            due("faults(3)", x.faults(3), to < 8 ? 1 : 0);
            due("faults(0)", x.faults(0), to < 8 ? 1 : 0);
            for (int i = 0; i < to; i++) {
                placeDue(x, 1, i, INTS, i < 8 ? i + 1 : 0);
            }
        }
    }

    @Sentence(of = 17, says = "All places of a RACK")
    static void passOfNoPlaces() {
        for (int to = 0; to < 10; to++) {
            for (int as = 0; as < 8; as++) {
                int other = to;
                int kind = as;
                refused("pass of no places", LINES, x -> x.pass(NO_PLACES, other, kind), 0);
            }
        }
        ProbeRacks x = new ProbeRacks();
        for (int kind = PLAIN; kind <= LINES; kind++) {
            x.rack(0, kind, 0);
            due("pass of no places of " + kind, x.pass(0, 1, INTS), 0);
        }
        due("fault()", x.fault(), 0);
    }

    @Sentence(of = 17, says = "each is WRITTEN so at its place of another RACK")
    static void passToItself() {
        ProbeRacks x = full(NONE);
        x.share(NOTHING, ROW_OF_INTS);
        due("pass(0, 0, 4)", x.pass(ROW_OF_INTS, ROW_OF_INTS, INTS), 3);
        due("pass(0, 9, 4)", x.pass(ROW_OF_INTS, NOTHING, INTS), 3);
        rowDue(x, ROW_OF_INTS, INTS, 5, -6, 7);
        due("pass(6, 0, 4) of a line", x.pass(A_LINE, ROW_OF_INTS, INTS), 2);
        rowDue(x, ROW_OF_INTS, INTS, 8, -9, 7);
        due("pass(0, 6, 4) to a line", x.pass(ROW_OF_INTS, A_LINE, INTS), 2);
        due("fault()", x.fault(), 3);
    }

    @Sentence(of = 17, says = "UNKNOWN; OUTSIDE; FAULTS: those of size() of the first, with nothing written.")
    static void passRefused() {
        for (int as = 0; as < 8; as++) {
            int kind = as;
            for (int to = 0; to < 10; to++) {
                int other = to;
                refused("pass of nothing to " + to, INTS, x -> x.pass(NOTHING, other, kind), NULL);
                refused("pass of a plain probe to " + to, INTS, x -> x.pass(A_PLAIN, other, kind), KIND);
                refused("pass of a fine probe to " + to, INTS, x -> x.pass(A_FINE, other, kind), KIND);
            }
        }
        for (int r : NO_RACKS) {
            alwaysRefused("pass of no rack", x -> x.pass(r, ROW_OF_INTS, INTS), UNKNOWN);
            alwaysRefused("pass to no rack", x -> x.pass(ROW_OF_INTS, r, INTS), UNKNOWN);
            alwaysRefused("pass of nothing to no rack", x -> x.pass(NOTHING, r, INTS), UNKNOWN);
        }
        for (int as : NO_KINDS) {
            alwaysRefused("pass as " + as, x -> x.pass(ROW_OF_INTS, NO_PLACES, as), OUTSIDE);
            alwaysRefused("pass of nothing as " + as, x -> x.pass(NOTHING, A_LINE, as), OUTSIDE);
        }
    }

    @Sentence(of = 17, says = "(Another FAULT is told by fault() alone.)")
    static void passTellsOtherFaults() {
        passComesTo("a row that does not go into the kind", ROW_OF_INTS, ROW_OF_INTS, SHORTS, 2);
        passComesTo("a row that does not go into the kind, to nothing", ROW_OF_INTS, NOTHING, SHORTS, 2);
        passComesTo("a row of lines, to nothing", ROW_OF_LINES, NOTHING, INTS, 2);
        passComesTo("a row of probes, to no places", ROW_OF_PLAIN, NO_PLACES, INTS, 2);
        passComesTo("to nothing", ROW_OF_INTS, NOTHING, INTS, 1);
        passComesTo("to a probe", ROW_OF_INTS, A_FINE, INTS, 2);
        passComesTo("to probes", ROW_OF_INTS, ROW_OF_FINE, INTS, 2);
        passComesTo("to lines", ROW_OF_INTS, ROW_OF_LINES, INTS, 2);
        passComesTo("to no places", ROW_OF_INTS, NO_PLACES, INTS, 3);
        passComesTo("to no places of a kind that it does not go into", ROW_OF_INTS, NO_PLACES, DOUBLES, 3);
        passComesTo("to a row that the kind does not go into", ROW_OF_INTS, ROW_OF_INTS, LONGS, 2);
    }

    private static void passComesTo(String what, int rack, int to, int as, int fault) {
        for (int gauge : ALL_CONTENTS) {
            ProbeRacks x = full(gauge);
            due(what, x.pass(rack, to, as), 0);
            due("fault()", x.fault(), fault);
            due("faults(0)", x.faults(0), 2);
            due("the room", tellAll(x), tellAll(full(gauge)));
        }
    }

    @Sentence(of = 18, says = "How many of the numbers 0 .. 7 as KINDS can be WRITTEN at place 0 of a RACK's ROW")
    static void takesOfEachKind() {
        int[] taken = {0b1, 0b10, 0b100, 0b1010, 0b11110, 0b111110, 0b1111110, 0b11111110, 0, 0, 0};
        for (int n = 1; n <= 16; n++) {
            for (int kind = 0; kind <= 10; kind++) {
                ProbeRacks x = new ProbeRacks();
                x.rack(0, kind, n);
                due("takes(0) of " + n + " of " + kind, x.takes(0), taken[kind]);
            }
        }
        refused("takes of a line", PLAIN, x -> x.takes(A_LINE), 0b11110);
    }

    @Sentence(of = 18, says = "(0 each, one by one; what was there stays there in the end)")
    static void takesChangesNothing() {
        for (int kind = 0; kind < 8; kind++) {
            for (long v : new long[] {lowestOf(kind), highestOf(kind)}) {
                ProbeRacks x = new ProbeRacks();
                rowOf(x, 0, kind, v, v);
                x.probe(true);
                x.takes(0);
                gaugeDue("the gauge stays", x, FINE, 1);
                rowDue(x, 0, kind, v, v);
            }
        }
        alwaysRefused("takes of probes", x -> x.takes(ROW_OF_PLAIN), 0);
        alwaysRefused("takes of lines", x -> x.takes(ROW_OF_LINES), 0);
    }

    @Sentence(of = 18, says = "UNKNOWN; FAULTS: those of size(); INDEX: it has no place.")
    static void takesRefused() {
        alwaysRefused("takes of no rack", x -> x.takes(10), UNKNOWN);
        alwaysRefused("takes of nothing", x -> x.takes(NOTHING), NULL);
        alwaysRefused("takes of a plain probe", x -> x.takes(A_PLAIN), KIND);
        alwaysRefused("takes of a fine probe", x -> x.takes(A_FINE), KIND);
        for (int kind = 0; kind <= 10; kind++) {
            int of = kind;
            refused("takes of no place of " + kind, () -> withRow(of), x -> x.takes(NOTHING), INDEX);
        }
        refused("takes of a line of none", () -> withLine(), x -> x.takes(NOTHING), INDEX);
    }

    private static ProbeRacks withRow(int kind) {
        ProbeRacks x = full(BYTES);
        x.rack(NOTHING, kind, 0);
        return x;
    }

    private static ProbeRacks withLine() {
        ProbeRacks x = full(NONE);
        x.line(0);
        x.hang(NOTHING);
        return x;
    }

    @Sentence(of = 18, says = "(Those that can not are no FAULT.)")
    static void takesIsNoFault() {
        ProbeRacks x = new ProbeRacks();
        for (int kind = 0; kind <= 10; kind++) {
            x.rack(0, kind, 1);
            x.takes(0);
        }
        due("the faults", tellFaults(x), "0 of 0 0 0 0");
    }

    @Sentence(of = 19, says = "Likewise AS which KINDS place 0 can be READ.")
    static void givesOfEachKind() {
        int[] given = {0b1, 0b11111010, 0b11110100, 0b11111000, 0b11110000, 0b11100000, 0b11000000, 0b10000000, 0, 0, 0};
        for (int n = 1; n <= 16; n++) {
            for (int kind = 0; kind <= 10; kind++) {
                ProbeRacks x = new ProbeRacks();
                x.rack(0, kind, n);
                due("gives(0) of " + n + " of " + kind, x.gives(0), given[kind]);
                due("the faults", tellFaults(x), "0 of 0 0 0 0");
            }
        }
        alwaysRefused("gives of a line", x -> x.gives(A_LINE), 0b11110000);
        alwaysRefused("gives of probes", x -> x.gives(ROW_OF_FINE), 0);
        alwaysRefused("gives of ints", x -> x.gives(ROW_OF_INTS), 0b11110000);
    }

    @Sentence(of = 19, says = "Likewise")
    static void givesRefused() {
        alwaysRefused("gives of no rack", x -> x.gives(-1), UNKNOWN);
        alwaysRefused("gives of nothing", x -> x.gives(NOTHING), NULL);
        alwaysRefused("gives of a plain probe", x -> x.gives(A_PLAIN), KIND);
        alwaysRefused("gives of a fine probe", x -> x.gives(A_FINE), KIND);
        for (int kind = 0; kind <= 10; kind++) {
            int of = kind;
            refused("gives of no place of " + kind, () -> withRow(of), x -> x.gives(NOTHING), INDEX);
        }
        refused("gives of a line of none", () -> withLine(), x -> x.gives(NOTHING), INDEX);
    }
}
