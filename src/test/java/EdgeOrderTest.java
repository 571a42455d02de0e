/** The orders that the section Terms names: of the faults of each act, and of what calls answer. */
public final class EdgeOrderTest extends Room {
    public static void main(String[] args) throws IllegalAccessException {
        runAllOf(EdgeOrderTest.class);
    }

    @Sentence(of = 0, says = "TO GET place i of a thing: NULL: there is nothing")
    static void getNull() {
        alwaysRefused("get", x -> x.get(NOTHING, 0), NULL);
        alwaysRefused("get of no place", x -> x.get(NOTHING, -1), NULL);
    }

    @Sentence(of = 0, says = "KIND: it is no ROW (no LINE)")
    static void getKind() {
        alwaysRefused("get of a plain probe", x -> x.get(A_PLAIN, 0), KIND);
        alwaysRefused("get of no place of a fine probe", x -> x.get(A_FINE, 99), KIND);
        due("get of a line", full(NONE).get(A_LINE, 1), INTS);
    }

    @Sentence(of = 0, says = "INDEX: no such place; else one has what is there.")
    static void getIndex() {
        alwaysRefused("get below", x -> x.get(A_LINE, -1), INDEX);
        alwaysRefused("get above", x -> x.get(A_LINE, 2), INDEX);
        alwaysRefused("get of a row of none", x -> x.get(NO_PLACES, 0), INDEX);
        alwaysRefused("get above of probes", x -> x.get(ROW_OF_FINE, 2), INDEX);
        placeDue(full(NONE), A_LINE, 1, INTS, -9);
        placeDue(full(NONE), ROW_OF_INTS, 2, INTS, 7);
        placeDue(full(NONE), ROW_OF_PLAIN, 1, FINE, 2);
        placeDue(full(INTS), ROW_OF_PLAIN, 2, NONE, 0);
        placeDue(full(NONE), ROW_OF_LINES, 0, LINES, 2);
    }

    @Sentence(of = 0, says = "TO SET what one has at place i: NULL")
    static void setNull() {
        alwaysRefused("set", x -> x.set(NOTHING, 0), NULL);
        alwaysRefused("set at no place", x -> x.set(NOTHING, -1), NULL);
    }

    @Sentence(of = 0, says = "NULL; KIND: no ROW (no LINE)")
    static void setKindOfNoRow() {
        alwaysRefused("set at a plain probe", x -> x.set(A_PLAIN, 0), KIND);
        alwaysRefused("set at no place of a fine probe", x -> x.set(A_FINE, 99), KIND);
        due("set at a line", full(INTS).set(A_LINE, 0), 1);
    }

    @Sentence(of = 0, says = "KIND: a ROW of numbers (a LINE), and one has nothing; INDEX")
    static void setNothingAtNumbers() {
        for (int i : new int[] {0, -1, 99, BOTTOM, TOP}) {
            refused("nothing set at place " + i + " of a row", NONE, x -> x.set(ROW_OF_INTS, i), KIND);
            refused("nothing set at place " + i + " of a line", NONE, x -> x.set(A_LINE, i), KIND);
            refused("nothing set at place " + i + " of none", NONE, x -> x.set(NO_PLACES, i), KIND);
            for (int kind = 0; kind < 8; kind++) {
                int of = kind;
                refused("nothing set at numbers of " + kind, () -> withNumbers(NONE, of), x -> x.set(NOTHING, i), KIND);
            }
        }
    }

    @Sentence(of = 0, says = "INDEX; KIND: at a ROW of numbers (a LINE is of INTS) a PROBE, a LINE")
    static void setThingsAtNumbers() {
        for (int gauge : new int[] {PLAIN, FINE, LINES}) {
            refused("a thing set at a line", gauge, x -> x.set(A_LINE, 0), KIND);
            refused("a thing set below a line", gauge, x -> x.set(A_LINE, -1), INDEX);
            refused("a thing set above a line", gauge, x -> x.set(A_LINE, 2), INDEX);
            for (int kind = 0; kind < 8; kind++) {
                int of = kind;
                String what = "a thing set at numbers of " + kind;
                refused(what, () -> withNumbers(gauge, of), x -> x.set(NOTHING, 15), KIND);
                refused(what + ", below", () -> withNumbers(gauge, of), x -> x.set(NOTHING, -1), INDEX);
                refused(what + ", above", () -> withNumbers(gauge, of), x -> x.set(NOTHING, 16), INDEX);
            }
        }
    }

    private static ProbeRacks withNumbers(int gauge, int kind) {
        ProbeRacks x = full(gauge);
        x.rack(NOTHING, kind, 16);
        return x;
    }

    @Sentence(of = 0, says = "or a number whose KIND does not GO INTO the ROW's")
    static void setNumbersAtNumbers() {
        for (int gauge = 0; gauge < 8; gauge++) {
            refused("a number set below", gauge, x -> x.set(ROW_OF_BYTES, -1), INDEX);
            refused("a number set above", gauge, x -> x.set(ROW_OF_BYTES, 1), INDEX);
            refused("a number set above a line", gauge, x -> x.set(A_LINE, 2), INDEX);
            if (!goesInto(gauge, BYTES)) {
                refused("a number set at bytes", gauge, x -> x.set(ROW_OF_BYTES, 0), KIND);
            }
            if (!goesInto(gauge, INTS)) {
                refused("a number set at a line", gauge, x -> x.set(A_LINE, 1), KIND);
            } else {
                due("a number " + gauge + " set at a line", full(gauge).set(A_LINE, 1), 1);
            }
        }
    }

    @Sentence(of = 0, says = "a number at 8 to 10")
    static void setNumbersAtThings() {
        for (int gauge = 0; gauge < 8; gauge++) {
            for (int rack = ROW_OF_LINES; rack <= ROW_OF_FINE; rack++) {
                int of = rack;
                refused("a number set at rack " + of, gauge, x -> x.set(of, 0), KIND);
                refused("a number set below at rack " + of, gauge, x -> x.set(of, -1), INDEX);
                refused("a number set above at rack " + of, gauge, x -> x.set(of, 3), INDEX);
            }
        }
    }

    @Sentence(of = 0, says = "a PROBE at 10, a PLAIN one at 9")
    static void setProbesAtThings() {
        refused("a plain probe set at lines", PLAIN, x -> x.set(ROW_OF_LINES, 0), KIND);
        refused("a plain probe set above lines", PLAIN, x -> x.set(ROW_OF_LINES, 3), INDEX);
        refused("a fine probe set at lines", FINE, x -> x.set(ROW_OF_LINES, 0), KIND);
        refused("a plain probe set at fine ones", PLAIN, x -> x.set(ROW_OF_FINE, 0), KIND);
        refused("a plain probe set above fine ones", PLAIN, x -> x.set(ROW_OF_FINE, 2), INDEX);
        due("a fine probe set at fine ones", full(FINE).set(ROW_OF_FINE, 1), 1);
        due("a fine probe set at plain ones", full(FINE).set(ROW_OF_PLAIN, 0), 1);
        due("a plain probe set at plain ones", full(PLAIN).set(ROW_OF_PLAIN, 1), 1);
    }

    @Sentence(of = 0, says = "a LINE at 8, 9")
    static void setLinesAtThings() {
        refused("a line set at plain probes", LINES, x -> x.set(ROW_OF_PLAIN, 2), KIND);
        refused("a line set above plain probes", LINES, x -> x.set(ROW_OF_PLAIN, 3), INDEX);
        refused("a line set at fine probes", LINES, x -> x.set(ROW_OF_FINE, 1), KIND);
        refused("a line set below fine probes", LINES, x -> x.set(ROW_OF_FINE, -1), INDEX);
        due("a line set at lines", full(LINES).set(ROW_OF_LINES, 1), 1);
    }

    @Sentence(of = 0, says = "(Nothing may be set at 8 to 10: the place is EMPTY.)")
    static void setNothingAtThings() {
        for (int rack = ROW_OF_LINES; rack <= ROW_OF_FINE; rack++) {
            int of = rack;
            ProbeRacks x = full(NONE);
            due("nothing set at a place of rack " + rack, x.set(rack, 0), 1);
            x.gauge(INTS, 1);
            placeDue(x, rack, 0, NONE, 0);
            due("nothing set at it once more", x.set(rack, 0), 1);
            refused("nothing set above at rack " + rack, NONE, y -> y.set(of, 3), INDEX);
            refused("nothing set below at rack " + rack, NONE, y -> y.set(of, -1), INDEX);
        }
    }

    @Sentence(of = 0, says = "TO READ place i AS a KIND: NULL; KIND: no ROW of numbers (no LINE); INDEX")
    static void readOrder() {
        for (int as = 0; as < 8; as++) {
            int kind = as;
            refused("read of nothing", INTS, x -> x.read(NOTHING, -1, kind), NULL);
            refused("read of a probe", INTS, x -> x.read(A_FINE, -1, kind), KIND);
            for (int rack = ROW_OF_LINES; rack <= ROW_OF_FINE; rack++) {
                int of = rack;
                refused("read of rack " + of, INTS, x -> x.read(of, 0, kind), KIND);
                refused("read below of rack " + of, INTS, x -> x.read(of, -1, kind), KIND);
                refused("read above of rack " + of, INTS, x -> x.read(of, 3, kind), KIND);
            }
            refused("read below", INTS, x -> x.read(ROW_OF_INTS, -1, kind), INDEX);
            refused("read above", INTS, x -> x.read(ROW_OF_INTS, 3, kind), INDEX);
            refused("read above of a line", INTS, x -> x.read(A_LINE, 2, kind), INDEX);
            refused("read of no places", INTS, x -> x.read(NO_PLACES, 0, kind), INDEX);
        }
    }

    @Sentence(of = 0, says = "INDEX; KIND: the ROW's KIND does not GO INTO that one; else one has that number.")
    static void readKindComesLast() {
        for (int as = 0; as < 8; as++) {
            int kind = as;
            if (goesInto(INTS, as)) {
                ProbeRacks x = full(PLAIN);
                due("read as " + as, x.read(ROW_OF_INTS, 1, as), 1);
                gaugeDue("read as " + as, x, as, -6);
            } else {
                refused("read as " + as, PLAIN, x -> x.read(ROW_OF_INTS, 1, kind), KIND);
                refused("read of a line as " + as, PLAIN, x -> x.read(A_LINE, 1, kind), KIND);
            }
        }
    }

    @Sentence(of = 0, says = "TO WRITE a number of a KIND at place i: NULL; KIND: no ROW of numbers (no LINE); INDEX")
    static void writeOrder() {
        for (int as = 0; as < 8; as++) {
            int kind = as;
            refused("write at nothing", INTS, x -> x.write(NOTHING, -1, kind), NULL);
            refused("write at a probe", INTS, x -> x.write(A_PLAIN, -1, kind), KIND);
            for (int rack = ROW_OF_LINES; rack <= ROW_OF_FINE; rack++) {
                int of = rack;
                refused("write at rack " + of, INTS, x -> x.write(of, 0, kind), KIND);
                refused("write below at rack " + of, INTS, x -> x.write(of, -1, kind), KIND);
                refused("write above at rack " + of, INTS, x -> x.write(of, 3, kind), KIND);
            }
            refused("write below", INTS, x -> x.write(ROW_OF_INTS, -1, kind), INDEX);
            refused("write above", INTS, x -> x.write(ROW_OF_INTS, 3, kind), INDEX);
            refused("write above at a line", INTS, x -> x.write(A_LINE, 2, kind), INDEX);
            refused("write at no places", INTS, x -> x.write(NO_PLACES, 0, kind), INDEX);
        }
    }

    @Sentence(of = 0, says = "INDEX; KIND: it does not GO INTO the ROW's.")
    static void writeKindComesLast() {
        for (int as = 0; as < 8; as++) {
            int kind = as;
            if (goesInto(as, INTS)) {
                due("write as " + as, full(LONGS).write(ROW_OF_INTS, 1, as), 1);
            } else {
                refused("write as " + as, LONGS, x -> x.write(ROW_OF_INTS, 1, kind), KIND);
                refused("write at a line as " + as, LONGS, x -> x.write(A_LINE, 1, kind), KIND);
            }
        }
    }

    @Sentence(of = 0, says = "UNKNOWN (there is no such RACK)")
    static void unknown() {
        for (int r : NO_RACKS) {
            alwaysRefused("rack", x -> x.rack(r, INTS, 1), UNKNOWN);
            alwaysRefused("hang", x -> x.hang(r), UNKNOWN);
            alwaysRefused("share", x -> x.share(r, ROW_OF_INTS), UNKNOWN);
            alwaysRefused("share from", x -> x.share(ROW_OF_INTS, r), UNKNOWN);
            alwaysRefused("empty", x -> x.empty(r), UNKNOWN);
            alwaysRefused("get", x -> x.get(r, 0), UNKNOWN);
            alwaysRefused("set", x -> x.set(r, 0), UNKNOWN);
            alwaysRefused("read", x -> x.read(r, 0, INTS), UNKNOWN);
            alwaysRefused("write", x -> x.write(r, 0, INTS), UNKNOWN);
            alwaysRefused("size", x -> x.size(r), UNKNOWN);
            alwaysRefused("within", x -> x.within(r, 0, 0), UNKNOWN);
            alwaysRefused("into", x -> x.into(r, 0, 0, 1), UNKNOWN);
            alwaysRefused("pass", x -> x.pass(r, ROW_OF_INTS, INTS), UNKNOWN);
            alwaysRefused("pass to", x -> x.pass(ROW_OF_INTS, r, INTS), UNKNOWN);
            alwaysRefused("takes", x -> x.takes(r), UNKNOWN);
            alwaysRefused("gives", x -> x.gives(r), UNKNOWN);
            alwaysRefused("step a", x -> x.step(0, r, 0, 0, 0), UNKNOWN);
            alwaysRefused("step b", x -> x.step(5, 0, 0, r, 0), UNKNOWN);
            alwaysRefused("told", x -> x.told(r), UNKNOWN);
            alwaysRefused("same", x -> x.same(r), UNKNOWN);
        }
    }

    @Sentence(of = 0, says = "the first of these that fits: UNKNOWN (there is no such RACK), OUTSIDE")
    static void unknownAheadOfOutside() {
        for (int r : NO_RACKS) {
            alwaysRefused("rack of no kind", x -> x.rack(r, 11, 1), UNKNOWN);
            alwaysRefused("rack of no length", x -> x.rack(r, INTS, 17), UNKNOWN);
            alwaysRefused("read as no kind", x -> x.read(r, 0, 8), UNKNOWN);
            alwaysRefused("write as no kind", x -> x.write(r, 0, 8), UNKNOWN);
            alwaysRefused("pass as no kind", x -> x.pass(r, 0, 8), UNKNOWN);
            alwaysRefused("pass to it as no kind", x -> x.pass(0, r, 8), UNKNOWN);
            alwaysRefused("step of no op", x -> x.step(6, r, 0, 0, 0), UNKNOWN);
            alwaysRefused("step of no i", x -> x.step(0, 0, 17, r, 0), UNKNOWN);
            alwaysRefused("step of no k", x -> x.step(0, r, 0, 0, 8), UNKNOWN);
        }
    }

    @Sentence(of = 0, says = "UNKNOWN (there is no such RACK), OUTSIDE (another number is not as told), STATE")
    static void unknownAndOutsideAheadOfState() {
        for (int gauge : ALL_CONTENTS) {
            refused("hang", gauge, x -> x.hang(10), UNKNOWN);
            refused("write at no rack", gauge, x -> x.write(-1, 0, INTS), UNKNOWN);
            refused("write as no kind", gauge, x -> x.write(0, 0, 8), OUTSIDE);
        }
    }

    @Sentence(of = 0, says = "STATE (as told), FULL")
    static void unknownAndOutsideAheadOfFull() {
        refused("step of no rack", EdgeOrderTest::fullOfSteps, x -> x.step(0, 10, 0, 0, 0), UNKNOWN);
        refused("step of no other rack", EdgeOrderTest::fullOfSteps, x -> x.step(0, 0, 0, -1, 0), UNKNOWN);
        refused("step of no op", EdgeOrderTest::fullOfSteps, x -> x.step(6, 0, 0, 0, 0), OUTSIDE);
        refused("step of no i", EdgeOrderTest::fullOfSteps, x -> x.step(0, 0, 17, 0, 0), OUTSIDE);
        refused("step of no k", EdgeOrderTest::fullOfSteps, x -> x.step(0, 0, 0, 0, -1), OUTSIDE);
        refused("step", EdgeOrderTest::fullOfSteps, x -> x.step(0, 0, 0, 0, 0), FULL);
    }

    private static ProbeRacks fullOfSteps() {
        ProbeRacks x = full(FINE);
        for (int n = 3; n <= 12; n++) {
            x.step(3, NOTHING, 0, 0, 0);
        }
        return x;
    }

    @Sentence(of = 0, says = "FULL; then FAULTS.")
    static void othersAheadOfFaults() {
        alwaysRefused("read of nothing as no kind", x -> x.read(NOTHING, 0, 8), OUTSIDE);
        alwaysRefused("write at nothing as no kind", x -> x.write(NOTHING, 0, -1), OUTSIDE);
        alwaysRefused("pass of nothing as no kind", x -> x.pass(NOTHING, NOTHING, 8), OUTSIDE);
        for (int gauge : new int[] {PLAIN, FINE, LINES, NONE}) {
            refused("write at nothing", gauge, x -> x.write(NOTHING, 0, INTS), STATE);
            refused("write at a probe", gauge, x -> x.write(A_PLAIN, 0, INTS), STATE);
            refused("write at no place", gauge, x -> x.write(ROW_OF_INTS, 99, INTS), STATE);
        }
    }
}
