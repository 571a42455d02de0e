/** The boundary cases of the promises of the gauge: 6 to 9, 26 and 27. */
public final class EdgeGaugeTest extends Room {
    public static void main(String[] args) throws IllegalAccessException {
        runAllOf(EdgeGaugeTest.class);
    }

    @Sentence(of = 6, says = "The GAUGE has v AS a KIND 0 .. 7: 1.")
    static void gaugeOfEachKind() {
        for (int before : ALL_CONTENTS) {
            for (int kind = 0; kind < 8; kind++) {
                ProbeRacks x = full(before);
                due("gauge(" + kind + ", lowest)", x.gauge(kind, lowestOf(kind)), 1);
                gaugeDue("the lowest of " + kind, x, kind, lowestOf(kind));
                due("gauge(" + kind + ", highest)", x.gauge(kind, highestOf(kind)), 1);
                gaugeDue("the highest of " + kind, x, kind, highestOf(kind));
                due("hang of it", x.hang(0), STATE);
            }
        }
    }

    @Sentence(of = 6, says = "v AS a KIND")
    static void gaugeWrapsAround() {
        long[] beyondHighest = {0, Byte.MIN_VALUE, 0, Short.MIN_VALUE, BOTTOM, Long.MIN_VALUE};
        long[] beyondLowest = {1, Byte.MAX_VALUE, Character.MAX_VALUE, Short.MAX_VALUE, TOP, Long.MAX_VALUE};
        for (int kind = 1; kind <= LONGS; kind++) {
            ProbeRacks x = new ProbeRacks();
            x.gauge(kind, highestOf(kind) + 1);
            due("one above the highest of " + kind, x.value(), beyondHighest[kind]);
            x.gauge(kind, lowestOf(kind) - 1);
            due("one below the lowest of " + kind, x.value(), beyondLowest[kind]);
        }
        ProbeRacks x = new ProbeRacks();
        x.gauge(BITS, 2);
        due("one above the highest bit", x.value(), 1);
        x.gauge(BITS, -1);
        due("one below the lowest bit", x.value(), 1);
    }

    @Sentence(of = 6, says = "OUTSIDE.")
    static void gaugeOfNoKind() {
        for (int kind : new int[] {-1, 8, 9, 10, 11, NONE, BOTTOM, TOP}) {
            alwaysRefused("gauge(" + kind + ", 1)", x -> x.gauge(kind, 1), OUTSIDE);
        }
    }

    @Sentence(of = 7, says = "The GAUGE has a new PROBE: its number.")
    static void probeOfEachSort() {
        for (int before : ALL_CONTENTS) {
            ProbeRacks x = full(before);
            due("probe(false)", x.probe(false), 3);
            gaugeDue("a plain one", x, PLAIN, 3);
            due("hang(9)", x.hang(NOTHING), 1);
            due("it is a new one", x.same(NOTHING), 1);
            due("probe(true)", x.probe(true), 4);
            gaugeDue("a fine one", x, FINE, 4);
        }
    }

    @Sentence(of = 7, says = "FULL.")
    static void probesAreFull() {
        for (int before : ALL_CONTENTS) {
            refused("probe(false)", () -> fullOfProbes(before), x -> x.probe(false), FULL);
            refused("probe(true)", () -> fullOfProbes(before), x -> x.probe(true), FULL);
        }
        ProbeRacks x = fullOfProbes(NONE);
        for (int r = 0; r < 10; r++) {
            x.empty(r);
        }
        due("with no probe in a rack or the gauge", x.probe(true), FULL);
    }

    private static ProbeRacks fullOfProbes(int gauge) {
        ProbeRacks x = full(gauge);
        for (int n = 3; n <= 40; n++) {
            due("probe " + n, x.probe(n % 2 == 0), n);
        }
        fillGauge(x, gauge);
        return x;
    }

    @Sentence(of = 8, says = "The GAUGE has a new LINE of n INTS: 1.")
    static void lineOfEachLength() {
        for (int before : ALL_CONTENTS) {
            for (int n = 0; n <= 4; n++) {
                ProbeRacks x = full(before);
                due("line(" + n + ")", x.line(n), 1);
                gaugeDue("line(" + n + ")", x, LINES, n);
                due("hang(9)", x.hang(NOTHING), 1);
                due("it is a new one", x.same(NOTHING), 1);
                due("size(9)", x.size(NOTHING), n);
                due("get(9, n)", x.get(NOTHING, n), INDEX);
                if (n > 0) {
                    placeDue(x, NOTHING, n - 1, INTS, 0);
                }
            }
        }
    }

    @Sentence(of = 8, says = "OUTSIDE: n is not 0 .. 4.")
    static void lineOfNoLength() {
        for (int n : new int[] {-1, 5, 16, BOTTOM, TOP}) {
            alwaysRefused("line(" + n + ")", x -> x.line(n), OUTSIDE);
        }
    }

    @Sentence(of = 9, says = "The GAUGE has nothing: 1.")
    static void noneAfterAll() {
        for (int before : ALL_CONTENTS) {
            ProbeRacks x = full(before);
            due("none()", x.none(), 1);
            gaugeDue("none()", x, NONE, 0);
            due("hang(9)", x.hang(NOTHING), STATE);
            due("write(0, 0, 4)", x.write(ROW_OF_INTS, 0, INTS), STATE);
            due("set(0, 0)", x.set(ROW_OF_INTS, 0), KIND);
            due("none() once more", x.none(), 1);
            gaugeDue("none() once more", x, NONE, 0);
            due("the racks and steps", tellAll(x), tellAll(full(NONE)));
        }
    }

    @Sentence(of = 26, says = "0 .. 7 a number of that KIND, 8 a PLAIN PROBE, 9 a FINE one, 10 a LINE; NONE.")
    static void hasAll() {
        for (int what : ALL_CONTENTS) {
            due("has()", full(what).has(), what);
            refused("has()", what, x -> x.has(), what);
        }
        ProbeRacks x = new ProbeRacks();
        due("has() at first", x.has(), NONE);
        x.line(0);
        due("has() of a line of none", x.has(), LINES);
        x.get(0, 0);
        due("has() after a fault", x.has(), LINES);
    }

    @Sentence(of = 27, says = "The VALUE of its number")
    static void valueOfNumbers() {
        long[] of300 = {1, 44, 300, 300, 300, 300, 300, 300};
        for (int kind = 0; kind < 8; kind++) {
            ProbeRacks x = full(kind);
            due("value() of " + kind, x.value(), of300[kind]);
            due("value() once more", x.value(), of300[kind]);
        }
    }

    @Sentence(of = 27, says = "the number of its PROBE")
    static void valueOfProbes() {
        ProbeRacks x = full(PLAIN);
        due("value()", x.value(), 1);
        fillGauge(x, FINE);
        due("value()", x.value(), 2);
        for (int n = 3; n <= 40; n++) {
            x.probe(false);
            due("value()", x.value(), n);
        }
    }

    @Sentence(of = 27, says = "how many INTS its LINE has; 0 with nothing.")
    static void valueOfLinesAndNothing() {
        ProbeRacks x = full(LINES);
        due("value()", x.value(), 2);
        x.line(0);
        due("value()", x.value(), 0);
        x.line(4);
        due("value()", x.value(), 4);
        x.none();
        due("value()", x.value(), 0);
        x.gauge(LONGS, 7);
        x.get(ROW_OF_FINE, 1);
        due("value() of an empty place", x.value(), 0);
    }
}
