/** The boundary cases that the section Terms names: kinds, values, probes, lines, racks, the gauge. */
public final class EdgeTermsTest extends Room {
    private static final long TWO_24 = 1L << 24, TWO_53 = 1L << 53, TWO_60 = 1L << 60;

    public static void main(String[] args) throws IllegalAccessException {
        runAllOf(EdgeTermsTest.class);
    }

    /** By gauge(), and by write() of a gauge's long at a row of the kind: both are v AS the kind. */
    private static void asKind(int kind, long v, long want) {
        ProbeRacks x = new ProbeRacks();
        due("gauge(" + kind + ", " + v + ")", x.gauge(kind, v), 1);
        gaugeDue(v + " as " + kind, x, kind, want);
        x.rack(0, kind, 1);
        due("set(0, 0)", x.set(0, 0), 1);
        placeDue(x, 0, 0, kind, want);
        x.rack(0, kind, 1);
        x.gauge(LONGS, v);
        due("write(0, 0, " + kind + ")", x.write(0, 0, kind), 1);
        placeDue(x, 0, 0, kind, want);
    }

    @Sentence(of = 0, says = "of a BIT 1 or 0")
    static void valueOfABit() {
        ProbeRacks x = new ProbeRacks();
        x.gauge(BITS, 0);
        due("value()", x.value(), 0);
        x.gauge(BITS, 300);
        due("value()", x.value(), 1);
    }

    @Sentence(of = 0, says = "of a CHAR its code")
    static void valueOfAChar() {
        asKind(CHARS, 'A', 65);
        asKind(CHARS, 0xFFFF, 65535);
        asKind(CHARS, 0x8000, 32768);
    }

    @Sentence(of = 0, says = "they are the nearest one to the long that they come from")
    static void nearestToTheLong() {
        asKind(FLOATS, TWO_24, TWO_24);
        asKind(FLOATS, TWO_24 - 1, TWO_24 - 1);
        asKind(FLOATS, 2 * TWO_24 + 1, 2 * TWO_24);
        asKind(FLOATS, 2 * TWO_24 + 3, 2 * TWO_24 + 4);
        asKind(FLOATS, -2 * TWO_24 - 1, -2 * TWO_24);
        asKind(FLOATS, -2 * TWO_24 - 3, -2 * TWO_24 - 4);
        asKind(DOUBLES, TWO_53, TWO_53);
        asKind(DOUBLES, TWO_53 - 1, TWO_53 - 1);
        asKind(DOUBLES, 2 * TWO_53 + 1, 2 * TWO_53);
        asKind(DOUBLES, 2 * TWO_53 + 3, 2 * TWO_53 + 4);
        asKind(DOUBLES, -2 * TWO_53 - 1, -2 * TWO_53);
        asKind(DOUBLES, -2 * TWO_53 - 3, -2 * TWO_53 - 4);
    }

    @Sentence(of = 0, says = "the nearest one to the long that they come from")
    static void nearestFloatNotByWayOfADouble() {
        asKind(FLOATS, TWO_60 + (1L << 36), TWO_60);
        asKind(FLOATS, TWO_60 + (1L << 36) + 1, TWO_60 + (1L << 37));
        asKind(FLOATS, TWO_60 + 3 * (1L << 36) - 1, TWO_60 + (1L << 37));
        asKind(FLOATS, -TWO_60 - (1L << 36) - 1, -TWO_60 - (1L << 37));
    }

    @Sentence(of = 0, says = "of two as near the one with the even last bit")
    static void evenLastBit() {
        asKind(FLOATS, TWO_24 + 1, TWO_24);
        asKind(FLOATS, TWO_24 + 3, TWO_24 + 4);
        asKind(FLOATS, TWO_24 + 5, TWO_24 + 4);
        asKind(FLOATS, -TWO_24 - 1, -TWO_24);
        asKind(FLOATS, -TWO_24 - 3, -TWO_24 - 4);
        asKind(FLOATS, 2 * TWO_24 - 1, 2 * TWO_24);
        asKind(DOUBLES, TWO_53 + 1, TWO_53);
        asKind(DOUBLES, TWO_53 + 3, TWO_53 + 4);
        asKind(DOUBLES, TWO_53 + 5, TWO_53 + 4);
        asKind(DOUBLES, -TWO_53 - 1, -TWO_53);
        asKind(DOUBLES, -TWO_53 - 3, -TWO_53 - 4);
        asKind(DOUBLES, 2 * TWO_53 - 1, 2 * TWO_53);
    }

    @Sentence(of = 0, says = "(2^63 - 1, if it is 2^63)")
    static void twoToThe63() {
        long top = Long.MAX_VALUE;
        asKind(FLOATS, top, top);
        asKind(FLOATS, top - (1L << 38) + 1, top);
        asKind(FLOATS, top - (1L << 38), top - (1L << 39) + 1);
        asKind(DOUBLES, top, top);
        asKind(DOUBLES, top - 512 + 1, top);
        asKind(DOUBLES, top - 512, top - 1024 + 1);
        asKind(FLOATS, Long.MIN_VALUE, Long.MIN_VALUE);
        asKind(FLOATS, Long.MIN_VALUE + 1, Long.MIN_VALUE);
        asKind(DOUBLES, Long.MIN_VALUE, Long.MIN_VALUE);
        asKind(DOUBLES, Long.MIN_VALUE + 1, Long.MIN_VALUE);
    }

    @Sentence(of = 0, says = "their VALUE is that (2^63 - 1, if it is 2^63)")
    static void twoToThe63OnItsWay() {
        long top = Long.MAX_VALUE;
        ProbeRacks x = new ProbeRacks();
        rowOf(x, 0, FLOATS, top);
        due("read(0, 0, 7)", x.read(0, 0, DOUBLES), 1);
        gaugeDue("2^63 as a double", x, DOUBLES, top);
        x.rack(1, LONGS, 1);
        due("write(1, 0, 5) of 2^63", x.write(1, 0, LONGS), 1);
        placeDue(x, 1, 0, LONGS, top);
        x.gauge(FLOATS, top);
        x.rack(2, SHORTS, 1);
        due("write(2, 0, 1) of 2^63", x.write(2, 0, BYTES), 1);
        placeDue(x, 2, 0, SHORTS, -1);
        x.rack(3, DOUBLES, 1);
        due("pass(0, 3, 6)", x.pass(0, 3, FLOATS), 1);
        placeDue(x, 3, 0, DOUBLES, top);
    }

    @Sentence(of = 0, says = "v AS a KIND: whether it is not 0")
    static void asBits() {
        asKind(BITS, 0, 0);
        asKind(BITS, 1, 1);
        asKind(BITS, 2, 1);
        asKind(BITS, -1, 1);
        asKind(BITS, 1L << 32, 1);
        asKind(BITS, Long.MIN_VALUE, 1);
    }

    @Sentence(of = 0, says = "its lowest 8 bits with sign")
    static void asBytes() {
        asKind(BYTES, 127, 127);
        asKind(BYTES, 128, -128);
        asKind(BYTES, -128, -128);
        asKind(BYTES, -129, 127);
        asKind(BYTES, 255, -1);
        asKind(BYTES, 256, 0);
        asKind(BYTES, (1L << 40) + 129, -127);
    }

    @Sentence(of = 0, says = "16 without")
    static void asChars() {
        asKind(CHARS, 65535, 65535);
        asKind(CHARS, 65536, 0);
        asKind(CHARS, -1, 65535);
        asKind(CHARS, -65536, 0);
        asKind(CHARS, (1L << 40) + 32768, 32768);
    }

    @Sentence(of = 0, says = "16 with")
    static void asShorts() {
        asKind(SHORTS, 32767, 32767);
        asKind(SHORTS, 32768, -32768);
        asKind(SHORTS, -32768, -32768);
        asKind(SHORTS, -32769, 32767);
        asKind(SHORTS, 65535, -1);
        asKind(SHORTS, (1L << 40) + 65536, 0);
    }

    @Sentence(of = 0, says = "32 with")
    static void asInts() {
        asKind(INTS, TOP, TOP);
        asKind(INTS, 1L << 31, BOTTOM);
        asKind(INTS, BOTTOM, BOTTOM);
        asKind(INTS, -(1L << 31) - 1, TOP);
        asKind(INTS, (1L << 32) - 1, -1);
        asKind(INTS, 1L << 32, 0);
    }

    @Sentence(of = 0, says = "32 with; v;")
    static void asLongs() {
        asKind(LONGS, Long.MAX_VALUE, Long.MAX_VALUE);
        asKind(LONGS, Long.MIN_VALUE, Long.MIN_VALUE);
        asKind(LONGS, TWO_53 + 1, TWO_53 + 1);
        asKind(LONGS, 0, 0);
    }

    @Sentence(of = 0, says = "the nearest FLOAT, DOUBLE.")
    static void asFloatsAndDoubles() {
        asKind(FLOATS, 0, 0);
        asKind(FLOATS, -1, -1);
        asKind(FLOATS, TWO_24 + 1, TWO_24);
        asKind(DOUBLES, 0, 0);
        asKind(DOUBLES, -1, -1);
        asKind(DOUBLES, TWO_24 + 1, TWO_24 + 1);
    }

    @Sentence(of = 0, says = "(a FINE one is a PLAIN one, too)")
    static void fineIsPlain() {
        ProbeRacks x = new ProbeRacks();
        x.rack(0, PLAIN, 1);
        x.rack(1, FINE, 1);
        x.probe(true);
        due("a fine one set at plain ones", x.set(0, 0), 1);
        due("a fine one set at fine ones", x.set(1, 0), 1);
        x.none();
        placeDue(x, 0, 0, FINE, 1);
        x.probe(false);
        due("a plain one set at fine ones", x.set(1, 0), KIND);
    }

    @Sentence(of = 0, says = "numbered 1, 2, .. as they are made")
    static void numberedAsMade() {
        ProbeRacks x = new ProbeRacks();
        due("the first probe", x.probe(true), 1);
        x.hang(0);
        due("the second probe", x.probe(false), 2);
        x.none();
        x.empty(0);
        due("the third probe", x.probe(true), 3);
        due("the number of it", x.value(), 3);
        due("the first probe of another room", new ProbeRacks().probe(true), 1);
    }

    @Sentence(of = 0, says = "40 at most")
    static void fortyProbes() {
        ProbeRacks x = new ProbeRacks();
        for (int n = 1; n < 40; n++) {
            x.probe(n % 2 == 0);
        }
        due("the last probe", x.probe(true), 40);
        due("one too many, plain", x.probe(false), FULL);
        due("one too many, fine", x.probe(true), FULL);
        gaugeDue("after that", x, FINE, 40);
    }

    @Sentence(of = 0, says = "LINES are rows of 0 to 4 INTS, 0 at first.")
    static void linesOfInts() {
        ProbeRacks x = new ProbeRacks();
        for (int n = 0; n <= 4; n++) {
            due("line(" + n + ")", x.line(n), 1);
            x.hang(n);
            due("size(" + n + ")", x.size(n), n);
            due("told(" + n + ")", x.told(n), INTS);
            for (int i = 0; i < n; i++) {
                placeDue(x, n, i, INTS, 0);
            }
            due("get(" + n + ", " + n + ")", x.get(n, n), INDEX);
        }
    }

    @Sentence(of = 0, says = "RACKS 0 .. 9 have NOTHING (at first)")
    static void racksAtFirst() {
        ProbeRacks x = new ProbeRacks();
        for (int r = 0; r <= 9; r++) {
            due("told(" + r + ")", x.told(r), NONE);
            due("size(" + r + ")", x.size(r), NULL);
        }
        due("told(10)", x.told(10), UNKNOWN);
        due("told(-1)", x.told(-1), UNKNOWN);
    }

    @Sentence(of = 0, says = "a ROW of 0 to 16 places: of a KIND 0 to 7 (0 at first)")
    static void numbersAtFirst() {
        for (int kind = 0; kind < 8; kind++) {
            ProbeRacks x = new ProbeRacks();
            due("rack(9, " + kind + ", 16)", x.rack(9, kind, 16), 16);
            for (int i = 0; i < 16; i++) {
                placeDue(x, 9, i, kind, 0);
            }
            due("get(9, 16)", x.get(9, 16), INDEX);
        }
    }

    @Sentence(of = 0, says = "(8 to 10: each place EMPTY at first)")
    static void emptyAtFirst() {
        for (int kind = PLAIN; kind <= LINES; kind++) {
            ProbeRacks x = new ProbeRacks();
            due("rack(9, " + kind + ", 16)", x.rack(9, kind, 16), 16);
            for (int i = 0; i < 16; i++) {
                x.gauge(INTS, 1);
                placeDue(x, 9, i, NONE, 0);
            }
            due("get(9, 16)", x.get(9, 16), INDEX);
        }
    }

    @Sentence(of = 0, says = "Several RACKS may have the same thing.")
    static void severalRacksWithOneThing() {
        ProbeRacks x = new ProbeRacks();
        x.line(1);
        for (int r = 0; r < 10; r++) {
            due("hang(" + r + ")", x.hang(r), 1);
        }
        x.gauge(INTS, 6);
        x.set(0, 0);
        for (int r = 0; r < 10; r++) {
            x.none();
            placeDue(x, r, 0, INTS, 6);
            due("same(" + r + ")", x.same(r), 10);
        }
    }

    @Sentence(of = 0, says = "The GAUGE has nothing (at first), a number of a KIND, a PROBE, or a LINE.")
    static void gaugeAtFirst() {
        ProbeRacks x = new ProbeRacks();
        gaugeDue("at first", x, NONE, 0);
        x.gauge(DOUBLES, 2);
        gaugeDue("a number", x, DOUBLES, 2);
        x.probe(false);
        gaugeDue("a probe in its stead", x, PLAIN, 1);
        x.line(3);
        gaugeDue("a line in its stead", x, LINES, 3);
        x.gauge(BITS, 2);
        gaugeDue("a number in its stead", x, BITS, 1);
        due("hang(0) of the number", x.hang(0), STATE);
    }

    /** The one kind goes into those of the others that are named, by every call that asks for it. */
    private static void goesOnlyInto(int kind, int... others) {
        int given = 0;
        for (int other : others) {
            given |= 1 << other;
        }
        for (int other = 0; other < 8; other++) {
            boolean can = (given >> other & 1) == 1;
            String what = kind + " into " + other;
            ProbeRacks x = new ProbeRacks();
            x.rack(0, kind, 1);
            x.rack(1, other, 1);
            x.gauge(kind, 1);
            due(what + " by set", x.set(1, 0), can ? 1 : KIND);
            due(what + " by write", x.write(1, 0, kind), can ? 1 : KIND);
            due(what + " by read", x.read(0, 0, other), can ? 1 : KIND);
            due(what + " by pass, read", x.pass(0, 1, other), can ? 1 : 0);
            due(what + " by pass, written", x.pass(0, 1, kind), can ? 1 : 0);
            due(what + " by takes", x.takes(1) >> kind & 1, can ? 1 : 0);
            x.step(5, 0, 0, 1, 0);
            due(what + " by a step", x.run(true), can ? 1 : 0);
            due(what + " by gives", x.gives(0), given);
        }
    }

    @Sentence(of = 0, says = "A KIND GOES INTO another one: each into itself")
    static void bitsIntoThemselvesAlone() {
        goesOnlyInto(BITS, BITS);
    }

    @Sentence(of = 0, says = "BYTES into SHORTS, INTS, LONGS, FLOATS, DOUBLES")
    static void bytesInto() {
        goesOnlyInto(BYTES, BYTES, SHORTS, INTS, LONGS, FLOATS, DOUBLES);
    }

    @Sentence(of = 0, says = "CHARS, SHORTS into INTS, LONGS, FLOATS, DOUBLES")
    static void charsAndShortsInto() {
        goesOnlyInto(CHARS, CHARS, INTS, LONGS, FLOATS, DOUBLES);
        goesOnlyInto(SHORTS, SHORTS, INTS, LONGS, FLOATS, DOUBLES);
    }

    @Sentence(of = 0, says = "INTS into LONGS, FLOATS, DOUBLES")
    static void intsInto() {
        goesOnlyInto(INTS, INTS, LONGS, FLOATS, DOUBLES);
    }

    @Sentence(of = 0, says = "LONGS into FLOATS, DOUBLES")
    static void longsInto() {
        goesOnlyInto(LONGS, LONGS, FLOATS, DOUBLES);
    }

    @Sentence(of = 0, says = "FLOATS into DOUBLES")
    static void floatsInto() {
        goesOnlyInto(FLOATS, FLOATS, DOUBLES);
        goesOnlyInto(DOUBLES, DOUBLES);
    }

    @Sentence(of = 0, says = "It is of that KIND then.")
    static void ofThatKindThen() {
        for (int kind = 0; kind < 8; kind++) {
            for (int other = 0; other < 8; other++) {
                if (goesInto(kind, other)) {
                    becomes(kind, lowestOf(kind), other);
                    becomes(kind, highestOf(kind), other);
                }
            }
        }
        ProbeRacks x = new ProbeRacks();
        rowOf(x, 0, INTS, TWO_24 + 1);
        rowOf(x, 1, LONGS, TWO_53 + 1);
        x.read(0, 0, FLOATS);
        gaugeDue("an int that is a float then", x, FLOATS, TWO_24);
        x.read(1, 0, DOUBLES);
        gaugeDue("a long that is a double then", x, DOUBLES, TWO_53);
    }

    @Sentence(of = 0, says = "It is of that KIND then.")
    static void ofThatKindForGood() {
        ProbeRacks x = new ProbeRacks();
        rowOf(x, 0, LONGS, TWO_24 + 1);
        x.rack(1, FLOATS, 3);
        x.gauge(INTS, TWO_24 + 1);
        x.set(1, 0);
        x.write(1, 1, INTS);
        x.step(5, 0, 0, 1, 2);
        x.run(true);
        x.rack(2, FLOATS, 1);
        x.pass(0, 2, LONGS);
        for (int i = 0; i < 3; i++) {
            due("read(1, " + i + ", 7)", x.read(1, i, DOUBLES), 1);
            gaugeDue("a whole number that was a float, as a double", x, DOUBLES, TWO_24);
        }
        due("read(2, 0, 7)", x.read(2, 0, DOUBLES), 1);
        gaugeDue("a passed number that was a float, as a double", x, DOUBLES, TWO_24);
        x.read(0, 0, FLOATS);
        x.write(0, 0, LONGS);
        placeDue(x, 0, 0, LONGS, TWO_24);
    }

    private static void becomes(int kind, long v, int other) {
        ProbeRacks x = new ProbeRacks();
        x.gauge(other, v);
        long want = x.value();
        rowOf(x, 0, kind, v);
        x.rack(1, other, 1);
        x.set(1, 0);
        gaugeDue(kind + " set at " + other + ": the gauge stays", x, kind, v);
        x.read(0, 0, other);
        gaugeDue(kind + " read as " + other, x, other, want);
        placeDue(x, 1, 0, other, want);
    }

    @Sentence(of = 0, says = "FAULTS: 1 NULL, 2 KIND, 3 INDEX. An act that comes to one answers -10 less it")
    static void faultsAnswer() {
        ProbeRacks x = full(INTS);
        due("get of nothing", x.get(NOTHING, 0), -11);
        due("fault()", x.fault(), 1);
        due("get of a probe", x.get(A_PLAIN, 0), -12);
        due("fault()", x.fault(), 2);
        due("get of no place", x.get(ROW_OF_INTS, 3), -13);
        due("fault()", x.fault(), 3);
    }

    @Sentence(of = 0, says = "and changes nothing but as told")
    static void faultsChangeNothing() {
        for (int rack : new int[] {A_PLAIN, A_FINE, NOTHING}) {
            int want = rack == NOTHING ? NULL : KIND;
            alwaysRefused("get", x -> x.get(rack, 0), want);
            alwaysRefused("set", x -> x.set(rack, 0), want);
            alwaysRefused("read", x -> x.read(rack, 0, INTS), want);
            alwaysRefused("size", x -> x.size(rack), want);
            alwaysRefused("within", x -> x.within(rack, 0, 0), want);
            alwaysRefused("into", x -> x.into(rack, 0, 0, 1), want);
            alwaysRefused("pass", x -> x.pass(rack, ROW_OF_INTS, INTS), want);
            alwaysRefused("takes", x -> x.takes(rack), want);
            alwaysRefused("gives", x -> x.gives(rack), want);
        }
        for (int gauge = 0; gauge < 8; gauge++) {
            refused("write at nothing", gauge, x -> x.write(NOTHING, 0, INTS), NULL);
            refused("write at a probe", gauge, x -> x.write(A_FINE, 0, INTS), KIND);
            refused("write at no place", gauge, x -> x.write(ROW_OF_INTS, 3, INTS), INDEX);
            refused("write at bytes", gauge, x -> x.write(ROW_OF_BYTES, 0, INTS), KIND);
        }
        for (int i : new int[] {-1, 3, BOTTOM, TOP}) {
            alwaysRefused("get of no place", x -> x.get(ROW_OF_INTS, i), INDEX);
            alwaysRefused("read of no place", x -> x.read(ROW_OF_INTS, i, LONGS), INDEX);
            alwaysRefused("within no place", x -> x.within(ROW_OF_LINES, i, 0), INDEX);
            alwaysRefused("into no place", x -> x.into(ROW_OF_LINES, i, 0, 1), INDEX);
            alwaysRefused("within no second place", x -> x.within(ROW_OF_LINES, 0, i), INDEX);
            alwaysRefused("into no second place", x -> x.into(ROW_OF_LINES, 0, i, 1), INDEX);
        }
        alwaysRefused("read as a narrower one", x -> x.read(ROW_OF_INTS, 0, SHORTS), KIND);
    }
}
