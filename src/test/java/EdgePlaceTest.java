/** The boundary cases of the promises of places: 10 to 13, 15 and 16. */
public final class EdgePlaceTest extends Room {
    private static final int[] NO_INDICES = {-1, 3, 16, BOTTOM, TOP};

    public static void main(String[] args) throws IllegalAccessException {
        runAllOf(EdgePlaceTest.class);
    }

    @Sentence(of = 10, says = "The GAUGE GETS what is at a place: what it has then (as has()).")
    static void getAtFirstAndLast() {
        for (int before : ALL_CONTENTS) {
            placeDue(full(before), ROW_OF_INTS, 0, INTS, 5);
            placeDue(full(before), ROW_OF_INTS, 2, INTS, 7);
            placeDue(full(before), ROW_OF_LINES, 2, LINES, 0);
            placeDue(full(before), ROW_OF_PLAIN, 0, PLAIN, 1);
            placeDue(full(before), ROW_OF_PLAIN, 1, FINE, 2);
            placeDue(full(before), ROW_OF_FINE, 1, NONE, 0);
            placeDue(full(before), A_LINE, 0, INTS, 8);
            placeDue(full(before), ROW_OF_BYTES, 0, BYTES, -77);
            ProbeRacks x = full(before);
            x.get(ROW_OF_PLAIN, 1);
            due("has()", x.has(), FINE);
            x.hang(NOTHING);
            due("it is the very probe", x.same(A_FINE), 2);
            x.get(ROW_OF_PLAIN, 2);
            due("has() of an empty place", x.has(), NONE);
            due("hang of an empty place", x.hang(NOTHING), STATE);
        }
    }

    @Sentence(of = 10, says = "UNKNOWN; FAULTS.")
    static void getRefused() {
        alwaysRefused("get(10, 0)", x -> x.get(10, 0), UNKNOWN);
        alwaysRefused("get(-1, 0)", x -> x.get(-1, 0), UNKNOWN);
        alwaysRefused("get of nothing", x -> x.get(NOTHING, 0), NULL);
        alwaysRefused("get of a probe", x -> x.get(A_FINE, 0), KIND);
        for (int i : NO_INDICES) {
            for (int rack = ROW_OF_INTS; rack <= ROW_OF_FINE; rack++) {
                int of = rack;
                refused("get(" + rack + ", " + i + ")", LINES, x -> x.get(of, i), INDEX);
            }
        }
    }

    @Sentence(of = 11, says = "What the GAUGE has is SET at a place: 1.")
    static void setAtFirstAndLast() {
        for (int kind = 0; kind < 8; kind++) {
            ProbeRacks x = new ProbeRacks();
            x.rack(0, kind, 16);
            x.gauge(kind, highestOf(kind));
            due("set(0, 0)", x.set(0, 0), 1);
            due("set(0, 15)", x.set(0, 15), 1);
            gaugeDue("the gauge stays", x, kind, highestOf(kind));
            placeDue(x, 0, 1, kind, 0);
            placeDue(x, 0, 14, kind, 0);
            placeDue(x, 0, 0, kind, highestOf(kind));
            placeDue(x, 0, 15, kind, highestOf(kind));
        }
        for (int what = PLAIN; what <= LINES; what++) {
            ProbeRacks x = full(what);
            long value = x.value();
            x.rack(NOTHING, what, 16);
            due("set(9, 0)", x.set(NOTHING, 0), 1);
            due("set(9, 15)", x.set(NOTHING, 15), 1);
            gaugeDue("the gauge stays", x, what, value);
            placeDue(x, NOTHING, 1, NONE, 0);
            placeDue(x, NOTHING, 14, NONE, 0);
            placeDue(x, NOTHING, 0, what, value);
            placeDue(x, NOTHING, 15, what, value);
        }
    }

    @Sentence(of = 11, says = "What the GAUGE has is SET at a place")
    static void setTheVeryThing() {
        ProbeRacks x = full(LINES);
        x.set(ROW_OF_LINES, 1);
        due("into(1, 1, 0, 55)", x.into(ROW_OF_LINES, 1, 0, 55), 1);
        placeDue(x, A_LINE, 0, INTS, 55);
        x.gauge(INTS, 56);
        x.set(A_LINE, 0);
        x.gauge(INTS, 57);
        placeDue(x, A_LINE, 0, INTS, 56);
    }

    @Sentence(of = 11, says = "UNKNOWN; FAULTS.")
    static void setRefused() {
        alwaysRefused("set(10, 0)", x -> x.set(10, 0), UNKNOWN);
        alwaysRefused("set at nothing", x -> x.set(NOTHING, 0), NULL);
        alwaysRefused("set at a probe", x -> x.set(A_FINE, 0), KIND);
        for (int i : NO_INDICES) {
            refused("an int set at ints, " + i, INTS, x -> x.set(ROW_OF_INTS, i), INDEX);
            refused("a long set at ints, " + i, LONGS, x -> x.set(ROW_OF_INTS, i), INDEX);
            refused("a probe set at ints, " + i, PLAIN, x -> x.set(ROW_OF_INTS, i), INDEX);
            refused("nothing set at ints, " + i, NONE, x -> x.set(ROW_OF_INTS, i), KIND);
            refused("nothing set at lines, " + i, NONE, x -> x.set(ROW_OF_LINES, i), INDEX);
        }
    }

    @Sentence(of = 12, says = "The GAUGE has what it READS at a place AS a KIND: 1.")
    static void readAtFirstAndLast() {
        for (int kind = 0; kind < 8; kind++) {
            for (int as = 0; as < 8; as++) {
                if (goesInto(kind, as)) {
                    ProbeRacks x = new ProbeRacks();
                    rowOf(x, 0, kind, lowestOf(kind), 0, highestOf(kind));
                    x.probe(true);
                    due("read(0, 0, " + as + ")", x.read(0, 0, as), 1);
                    gaugeDue("the lowest of " + kind + " as " + as, x, as, lowestOf(kind));
                    due("read(0, 2, " + as + ")", x.read(0, 2, as), 1);
                    gaugeDue("the highest of " + kind + " as " + as, x, as, highestAs(kind, as));
                    placeDue(x, 0, 2, kind, highestOf(kind));
                }
            }
        }
    }

    private static long highestAs(int kind, int as) {
        // No other highest number is rounded on its way, but for those whose value is 2^63 - 1 all the same.
        return kind == INTS && as == FLOATS ? 1L << 31 : highestOf(kind);
    }

    @Sentence(of = 12, says = "UNKNOWN; OUTSIDE; FAULTS.")
    static void readRefused() {
        alwaysRefused("read(10, 0, 4)", x -> x.read(10, 0, INTS), UNKNOWN);
        for (int as : NO_KINDS) {
            alwaysRefused("read as " + as, x -> x.read(ROW_OF_INTS, 0, as), OUTSIDE);
            alwaysRefused("read of nothing as " + as, x -> x.read(NOTHING, 0, as), OUTSIDE);
        }
        for (int i : NO_INDICES) {
            alwaysRefused("read of no place " + i, x -> x.read(ROW_OF_INTS, i, DOUBLES), INDEX);
            alwaysRefused("read of no place " + i + " as bits", x -> x.read(ROW_OF_INTS, i, BITS), INDEX);
        }
        alwaysRefused("read as bits", x -> x.read(ROW_OF_INTS, 0, BITS), KIND);
        alwaysRefused("read of probes", x -> x.read(ROW_OF_PLAIN, 99, INTS), KIND);
    }

    @Sentence(of = 13, says = "The VALUE of the GAUGE's number AS a KIND is WRITTEN at a place (the GAUGE stays): 1.")
    static void writeNarrower() {
        long v = (1L << 53) + (1L << 24) + 65536 + 256;
        long[] written = {1, 0, 256, 256, (1L << 24) + 65536 + 256, v, 1L << 53, v};
        for (int as = 0; as < 8; as++) {
            for (int kind = 0; kind < 8; kind++) {
                if (goesInto(as, kind)) {
                    ProbeRacks x = new ProbeRacks();
                    x.rack(0, kind, 16);
                    x.gauge(LONGS, v);
                    due("write(0, 15, " + as + ") at " + kind, x.write(0, 15, as), 1);
                    gaugeDue("the gauge stays", x, LONGS, v);
                    placeDue(x, 0, 14, kind, 0);
                    placeDue(x, 0, 15, kind, as == LONGS && kind == FLOATS ? 1L << 53 : written[as]);
                }
            }
        }
    }

    @Sentence(of = 13, says = "The VALUE of the GAUGE's number AS a KIND")
    static void writeOfEveryKindInTheGauge() {
        for (int gauge = 0; gauge < 8; gauge++) {
            for (int as = 0; as < 8; as++) {
                ProbeRacks x = new ProbeRacks();
                x.gauge(gauge, -300);
                long value = x.value();
                x.gauge(as, value);
                long want = x.value();
                x.rack(0, as, 1);
                x.gauge(gauge, -300);
                due("write(0, 0, " + as + ") of " + gauge, x.write(0, 0, as), 1);
                gaugeDue("the gauge stays", x, gauge, value);
                placeDue(x, 0, 0, as, want);
            }
        }
    }

    @Sentence(of = 13, says = "STATE: it has no number")
    static void writeOfNoNumber() {
        for (int gauge : new int[] {PLAIN, FINE, LINES, NONE}) {
            for (int as = 0; as < 8; as++) {
                int kind = as;
                refused("write", gauge, x -> x.write(ROW_OF_INTS, 0, kind), STATE);
                refused("write at nothing", gauge, x -> x.write(NOTHING, -1, kind), STATE);
            }
        }
    }

    @Sentence(of = 13, says = "UNKNOWN; OUTSIDE; STATE: it has no number; FAULTS.")
    static void writeRefused() {
        alwaysRefused("write(10, 0, 8)", x -> x.write(10, 0, 8), UNKNOWN);
        for (int as : NO_KINDS) {
            alwaysRefused("write as " + as, x -> x.write(ROW_OF_INTS, 0, as), OUTSIDE);
        }
        for (int gauge = 0; gauge < 8; gauge++) {
            for (int i : NO_INDICES) {
                refused("write at no place " + i, gauge, x -> x.write(ROW_OF_INTS, i, INTS), INDEX);
                refused("write at no place " + i + " as longs", gauge, x -> x.write(ROW_OF_INTS, i, LONGS), INDEX);
            }
            refused("write as longs", gauge, x -> x.write(ROW_OF_INTS, 0, LONGS), KIND);
            refused("write at lines", gauge, x -> x.write(ROW_OF_LINES, 99, INTS), KIND);
            refused("write at nothing", gauge, x -> x.write(NOTHING, 0, INTS), NULL);
        }
    }

    @Sentence(of = 15, says = "place j of that is READ AS LONGS: the GAUGE has it: 1.")
    static void withinAtFirstAndLast() {
        for (int before : ALL_CONTENTS) {
            ProbeRacks x = full(before);
            x.rack(NOTHING, LINES, 16);
            x.line(4);
            x.set(NOTHING, 15);
            x.into(NOTHING, 15, 0, BOTTOM);
            x.into(NOTHING, 15, 3, TOP);
            fillGauge(x, before);
            due("within(9, 15, 0)", x.within(NOTHING, 15, 0), 1);
            gaugeDue("within(9, 15, 0)", x, LONGS, BOTTOM);
            due("within(9, 15, 3)", x.within(NOTHING, 15, 3), 1);
            gaugeDue("within(9, 15, 3)", x, LONGS, TOP);
            due("within(9, 15, 1)", x.within(NOTHING, 15, 1), 1);
            gaugeDue("within(9, 15, 1)", x, LONGS, 0);
        }
    }

    @Sentence(of = 15, says = "UNKNOWN; FAULTS")
    static void withinFirstRefused() {
        for (int j : new int[] {0, -1, TOP}) {
            alwaysRefused("within no rack", x -> x.within(10, 0, j), UNKNOWN);
            alwaysRefused("within nothing", x -> x.within(NOTHING, -1, j), NULL);
            alwaysRefused("within a probe", x -> x.within(A_FINE, -1, j), KIND);
            for (int i : NO_INDICES) {
                for (int rack : new int[] {ROW_OF_INTS, ROW_OF_LINES, ROW_OF_PLAIN, A_LINE, NO_PLACES}) {
                    refused("within(" + rack + ", " + i + ", " + j + ")", INTS, x -> x.within(rack, i, j), INDEX);
                }
            }
        }
    }

    @Sentence(of = 15, says = "then those of the second (an EMPTY place: NULL; a PROBE, a number: KIND)")
    static void withinSecondRefused() {
        for (int j : new int[] {0, -1, TOP}) {
            alwaysRefused("within an empty place of lines", x -> x.within(ROW_OF_LINES, 1, j), NULL);
            alwaysRefused("within an empty place of plain probes", x -> x.within(ROW_OF_PLAIN, 2, j), NULL);
            alwaysRefused("within an empty place of fine probes", x -> x.within(ROW_OF_FINE, 1, j), NULL);
            alwaysRefused("within a plain probe's place", x -> x.within(ROW_OF_PLAIN, 0, j), KIND);
            alwaysRefused("within a fine probe's place", x -> x.within(ROW_OF_FINE, 0, j), KIND);
            alwaysRefused("within an int", x -> x.within(ROW_OF_INTS, 0, j), KIND);
            alwaysRefused("within an int of a line", x -> x.within(A_LINE, 0, j), KIND);
            alwaysRefused("within a byte", x -> x.within(ROW_OF_BYTES, 0, j), KIND);
            alwaysRefused("within a line of none", x -> x.within(ROW_OF_LINES, 2, j), INDEX);
        }
        for (int j : new int[] {-1, 2, 4, BOTTOM, TOP}) {
            alwaysRefused("within a line, " + j, x -> x.within(ROW_OF_LINES, 0, j), INDEX);
        }
    }

    @Sentence(of = 16, says = "Likewise; an INT v is WRITTEN at place j of it: 1.")
    static void intoAtFirstAndLast() {
        for (int gauge : ALL_CONTENTS) {
            for (int v : new int[] {0, -1, BOTTOM, TOP}) {
                ProbeRacks x = full(gauge);
                long value = x.value();
                due("into(1, 0, 1, " + v + ")", x.into(ROW_OF_LINES, 0, 1, v), 1);
                gaugeDue("the gauge stays", x, gauge, value);
                placeDue(x, A_LINE, 0, INTS, 8);
                placeDue(x, A_LINE, 1, INTS, v);
                due("into(1, 0, 0, " + v + ")", x.into(ROW_OF_LINES, 0, 0, v), 1);
                placeDue(x, A_LINE, 0, INTS, v);
            }
        }
    }

    @Sentence(of = 16, says = "Likewise")
    static void intoRefused() {
        for (int j : new int[] {0, -1, TOP}) {
            alwaysRefused("into no rack", x -> x.into(-1, 0, j, 1), UNKNOWN);
            alwaysRefused("into nothing", x -> x.into(NOTHING, -1, j, 1), NULL);
            alwaysRefused("into a probe", x -> x.into(A_PLAIN, -1, j, 1), KIND);
            alwaysRefused("into no place of ints", x -> x.into(ROW_OF_INTS, 3, j, 1), INDEX);
            alwaysRefused("into no place of lines", x -> x.into(ROW_OF_LINES, -1, j, 1), INDEX);
            alwaysRefused("into an empty place", x -> x.into(ROW_OF_LINES, 1, j, 1), NULL);
            alwaysRefused("into an empty place of probes", x -> x.into(ROW_OF_PLAIN, 2, j, 1), NULL);
            alwaysRefused("into a probe's place", x -> x.into(ROW_OF_PLAIN, 1, j, 1), KIND);
            alwaysRefused("into an int", x -> x.into(ROW_OF_INTS, 0, j, 1), KIND);
            alwaysRefused("into an int of a line", x -> x.into(A_LINE, 0, j, 1), KIND);
            alwaysRefused("into a line of none", x -> x.into(ROW_OF_LINES, 2, j, 1), INDEX);
        }
        for (int j : new int[] {-1, 2, 4, BOTTOM, TOP}) {
            alwaysRefused("into a line, " + j, x -> x.into(ROW_OF_LINES, 0, j, 1), INDEX);
        }
    }
}
