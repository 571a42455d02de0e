/** Each promise's ordinary inputs, the edges that the document names, and wrong inputs. */
public final class PromiseTest {
    private static final int UNKNOWN = -1, OUTSIDE = -2, STATE = -3, FULL = -4, NONE = -9;
    private static final int NULL = -11, KIND = -12, INDEX = -13;
    private static final int BITS = 0, BYTES = 1, CHARS = 2, SHORTS = 3, INTS = 4, LONGS = 5, FLOATS = 6, DOUBLES = 7;
    private static final int PLAIN = 8, FINE = 9, LINES = 10;
    private static final int[] WRONG = {-1, Integer.MIN_VALUE, Integer.MAX_VALUE};
    private static final String[] GOES_INTO = {"0", "134567", "24567", "34567", "4567", "567", "67", "7"};

    private static int wrong = 0;
    private static int looked = 0;

    public static void main(String[] args) {
        newObject();
        rack();
        hang();
        share();
        empty();
        gauge();
        probe();
        line();
        none();
        get();
        set();
        setThings();
        setOrder();
        read();
        write();
        size();
        within();
        into();
        pass();
        passFaults();
        takesAndGives();
        step();
        run();
        runFull();
        runKinds();
        met();
        clear();
        faults();
        hasAndValue();
        told();
        same();
        unknownRacks();
        unknownComesFirst();
        System.out.println("PromiseTest: " + looked + " answers, " + wrong + " not as due");
        if (wrong != 0) {
            System.exit(1);
        }
    }

    private static void due(int promise, String what, long got, long want) {
        looked++;
        if (got != want) {
            wrong++;
            System.out.println("promise " + promise + ": " + what + " answered " + got + ", due is " + want);
        }
    }

    private static void gaugeDue(int promise, String what, ProbeRacks x, int kind, long value) {
        due(promise, what + ", has()", x.has(), kind);
        due(promise, what + ", value()", x.value(), value);
    }

    private static boolean goesInto(int kind, int other) {
        return other < PLAIN && GOES_INTO[kind].indexOf((char) ('0' + other)) >= 0;
    }

    private static void newObject() {
        ProbeRacks x = new ProbeRacks();
        for (int r = 0; r < 10; r++) {
            due(1, "told(" + r + ")", x.told(r), NONE);
            due(1, "same(" + r + ")", x.same(r), 0);
        }
        gaugeDue(1, "a new gauge", x, NONE, 0);
        due(1, "fault()", x.fault(), 0);
        for (int of = 0; of <= 3; of++) {
            due(1, "faults(" + of + ")", x.faults(of), 0);
        }
        due(1, "run(true)", x.run(true), 0);
        due(1, "met(0)", x.met(0), NONE);
        due(1, "clear()", x.clear(), 0);
        due(1, "probe(false)", x.probe(false), 1);
        due(1, "another object's probe(false)", new ProbeRacks().probe(false), 1);
    }

    private static void rack() {
        ProbeRacks x = new ProbeRacks();
        for (int kind = 0; kind <= 10; kind++) {
            due(2, "rack(0, " + kind + ", 16)", x.rack(0, kind, 16), 16);
            due(2, "told(0)", x.told(0), kind);
            due(2, "size(0)", x.size(0), 16);
            due(2, "get(0, 15)", x.get(0, 15), kind < 8 ? kind : NONE);
            due(2, "value()", x.value(), 0);
            due(2, "rack(9, " + kind + ", 0)", x.rack(9, kind, 0), 0);
            due(2, "size(9)", x.size(9), 0);
        }
        due(2, "rack(0, 4, 3)", x.rack(0, INTS, 3), 3);
        due(2, "rack(0, 11, 1)", x.rack(0, 11, 1), OUTSIDE);
        due(2, "rack(0, 4, 17)", x.rack(0, INTS, 17), OUTSIDE);
        for (int w : WRONG) {
            due(2, "rack(0, " + w + ", 1)", x.rack(0, w, 1), OUTSIDE);
            due(2, "rack(0, 4, " + w + ")", x.rack(0, INTS, w), OUTSIDE);
        }
        due(2, "size(0) after wrong ones", x.size(0), 3);
        x.gauge(INTS, 5);
        x.set(0, 0);
        x.share(1, 0);
        x.rack(0, INTS, 3);
        x.get(0, 0);
        due(2, "a new row's value()", x.value(), 0);
        x.get(1, 0);
        due(2, "the old row's value()", x.value(), 5);
    }

    private static void hang() {
        ProbeRacks x = new ProbeRacks();
        due(3, "hang(0) of nothing", x.hang(0), STATE);
        x.gauge(INTS, 1);
        due(3, "hang(0) of a number", x.hang(0), STATE);
        due(3, "told(0)", x.told(0), NONE);
        x.probe(false);
        due(3, "hang(0) of a probe", x.hang(0), 1);
        due(3, "hang(1) of it", x.hang(1), 1);
        due(3, "told(0)", x.told(0), 11);
        due(3, "same(0)", x.same(0), 2);
        gaugeDue(3, "the gauge stays", x, PLAIN, 1);
        x.line(3);
        due(3, "hang(0) of a line", x.hang(0), 1);
        due(3, "told(0)", x.told(0), INTS);
        due(3, "size(0)", x.size(0), 3);
        x.rack(2, LINES, 1);
        x.set(2, 0);
        due(3, "into(2, 0, 2, -8)", x.into(2, 0, 2, -8), 1);
        due(3, "get(0, 2)", x.get(0, 2), INTS);
        due(3, "the hung line is the one in the row", x.value(), -8);
    }

    private static void share() {
        ProbeRacks x = new ProbeRacks();
        x.rack(0, INTS, 2);
        due(4, "share(1, 0)", x.share(1, 0), 1);
        x.gauge(INTS, 7);
        x.set(1, 1);
        x.get(0, 1);
        due(4, "value()", x.value(), 7);
        due(4, "share(0, 0)", x.share(0, 0), 1);
        due(4, "same(0)", x.same(0), 2);
        due(4, "share(0, 5)", x.share(0, 5), 1);
        due(4, "told(0)", x.told(0), NONE);
        due(4, "told(1)", x.told(1), INTS);
    }

    private static void empty() {
        ProbeRacks x = new ProbeRacks();
        x.rack(0, INTS, 2);
        x.share(1, 0);
        due(5, "empty(0)", x.empty(0), 1);
        due(5, "told(0)", x.told(0), NONE);
        due(5, "told(1)", x.told(1), INTS);
        due(5, "empty(0) once more", x.empty(0), 1);
    }

    private static void gaugeOf(ProbeRacks x, int kind, long v, long want) {
        String call = "gauge(" + kind + ", " + v + ")";
        due(6, call, x.gauge(kind, v), 1);
        gaugeDue(6, call, x, kind, want);
    }

    private static void gauge() {
        ProbeRacks x = new ProbeRacks();
        long big = 1L << 32;
        gaugeOf(x, BITS, 0, 0);
        gaugeOf(x, BITS, big, 1);
        gaugeOf(x, BITS, -2, 1);
        gaugeOf(x, BYTES, 127, 127);
        gaugeOf(x, BYTES, 128, -128);
        gaugeOf(x, BYTES, big + 255, -1);
        gaugeOf(x, CHARS, -1, 65535);
        gaugeOf(x, CHARS, 65536, 0);
        gaugeOf(x, SHORTS, 32767, 32767);
        gaugeOf(x, SHORTS, 32768, -32768);
        gaugeOf(x, INTS, big, 0);
        gaugeOf(x, INTS, 1L << 31, Integer.MIN_VALUE);
        gaugeOf(x, LONGS, Long.MIN_VALUE, Long.MIN_VALUE);
        gaugeOf(x, LONGS, Long.MAX_VALUE, Long.MAX_VALUE);
        gaugeOf(x, FLOATS, 1 << 24, 1 << 24);
        gaugeOf(x, FLOATS, (1 << 24) + 1, 1 << 24);
        gaugeOf(x, FLOATS, (1 << 24) + 3, (1 << 24) + 4);
        gaugeOf(x, FLOATS, -(1 << 24) - 1, -(1 << 24));
        gaugeOf(x, FLOATS, Long.MAX_VALUE, Long.MAX_VALUE);
        gaugeOf(x, FLOATS, Long.MIN_VALUE, Long.MIN_VALUE);
        // The float that is nearest to the long, not to the double that is nearest to it.
        gaugeOf(x, FLOATS, (1L << 60) + (1L << 36) + 1, (1L << 60) + (1L << 37));
        gaugeOf(x, DOUBLES, (1L << 53) + 1, 1L << 53);
        gaugeOf(x, DOUBLES, (1L << 53) + 3, (1L << 53) + 4);
        gaugeOf(x, DOUBLES, (1 << 24) + 1, (1 << 24) + 1);
        gaugeOf(x, DOUBLES, Long.MAX_VALUE, Long.MAX_VALUE);
        gaugeOf(x, DOUBLES, Long.MAX_VALUE - 1024, Long.MAX_VALUE - 1023);
        gaugeOf(x, DOUBLES, Long.MIN_VALUE, Long.MIN_VALUE);
        gaugeOf(x, INTS, 5, 5);
        due(6, "gauge(8, 1)", x.gauge(8, 1), OUTSIDE);
        for (int w : WRONG) {
            due(6, "gauge(" + w + ", 1)", x.gauge(w, 1), OUTSIDE);
        }
        gaugeDue(6, "after wrong ones", x, INTS, 5);
    }

    private static void probe() {
        ProbeRacks x = new ProbeRacks();
        for (int n = 1; n <= 40; n++) {
            boolean fine = n % 3 == 0;
            due(7, "probe(" + fine + ")", x.probe(fine), n);
            gaugeDue(7, "probe " + n, x, fine ? FINE : PLAIN, n);
        }
        due(7, "probe 41", x.probe(true), FULL);
        gaugeDue(7, "after FULL", x, PLAIN, 40);
        x.none();
        due(7, "probe 41 once more", x.probe(false), FULL);
        gaugeDue(7, "after FULL and none", x, NONE, 0);
    }

    private static void line() {
        ProbeRacks x = new ProbeRacks();
        for (int n = 0; n <= 4; n++) {
            due(8, "line(" + n + ")", x.line(n), 1);
            gaugeDue(8, "line(" + n + ")", x, LINES, n);
            x.hang(n);
            due(8, "size(" + n + ")", x.size(n), n);
        }
        due(8, "get(4, 3)", x.get(4, 3), INTS);
        due(8, "value()", x.value(), 0);
        due(8, "line(5)", x.line(5), OUTSIDE);
        for (int w : WRONG) {
            due(8, "line(" + w + ")", x.line(w), OUTSIDE);
        }
        gaugeDue(8, "after wrong ones", x, INTS, 0);
        x.line(1);
        x.hang(0);
        x.line(1);
        x.hang(1);
        due(8, "each line is a new one", x.same(0), 1);
    }

    private static void none() {
        ProbeRacks x = new ProbeRacks();
        due(9, "none()", x.none(), 1);
        x.gauge(LONGS, 9);
        due(9, "none() of a number", x.none(), 1);
        gaugeDue(9, "none()", x, NONE, 0);
        due(9, "hang(0)", x.hang(0), STATE);
        due(9, "write(0, 0, 4)", x.write(0, 0, INTS), STATE);
        x.probe(true);
        x.none();
        gaugeDue(9, "none() of a probe", x, NONE, 0);
        due(9, "hang(0)", x.hang(0), STATE);
    }

    private static void get() {
        ProbeRacks x = new ProbeRacks();
        due(10, "get(0, -1) of nothing", x.get(0, -1), NULL);
        x.probe(true);
        x.hang(0);
        due(10, "get(0, -1) of a probe", x.get(0, -1), KIND);
        gaugeDue(10, "after faults", x, FINE, 1);
        x.rack(1, FINE, 2);
        x.set(1, 1);
        due(10, "get(1, 0) of an empty place", x.get(1, 0), NONE);
        gaugeDue(10, "an empty place", x, NONE, 0);
        due(10, "get(1, 1)", x.get(1, 1), FINE);
        due(10, "hang(2)", x.hang(2), 1);
        due(10, "the probe is the same one", x.same(0), 2);
        x.rack(3, CHARS, 16);
        x.gauge(CHARS, -1);
        x.set(3, 15);
        x.none();
        for (int i : new int[] {-1, 16, Integer.MIN_VALUE, Integer.MAX_VALUE}) {
            due(10, "get(3, " + i + ")", x.get(3, i), INDEX);
        }
        gaugeDue(10, "after faults", x, NONE, 0);
        due(10, "get(3, 15)", x.get(3, 15), CHARS);
        gaugeDue(10, "get(3, 15)", x, CHARS, 65535);
        x.rack(4, CHARS, 0);
        due(10, "get(4, 0)", x.get(4, 0), INDEX);
        x.line(2);
        x.rack(5, LINES, 1);
        x.set(5, 0);
        x.none();
        due(10, "get(5, 0)", x.get(5, 0), LINES);
        gaugeDue(10, "a line", x, LINES, 2);
    }

    private static void set() {
        for (int kind = 0; kind < 8; kind++) {
            for (int other = 0; other < 8; other++) {
                ProbeRacks x = new ProbeRacks();
                x.rack(0, other, 3);
                x.gauge(kind, -77);
                long v = x.value();
                due(11, kind + " set at " + other, x.set(0, 2), goesInto(kind, other) ? 1 : KIND);
                gaugeDue(11, "the gauge stays", x, kind, v);
                due(11, "get(0, 2)", x.get(0, 2), other);
                due(11, "value()", x.value(), goesInto(kind, other) ? v : 0);
                x.get(0, 1);
                due(11, "another place", x.value(), 0);
            }
        }
        ProbeRacks x = new ProbeRacks();
        x.rack(0, FLOATS, 1);
        x.gauge(INTS, (1 << 24) + 1);
        due(11, "an int set at floats", x.set(0, 0), 1);
        x.get(0, 0);
        gaugeDue(11, "the nearest float", x, FLOATS, 1 << 24);
        x.rack(1, DOUBLES, 1);
        x.gauge(LONGS, (1L << 53) + 1);
        due(11, "a long set at doubles", x.set(1, 0), 1);
        x.get(1, 0);
        gaugeDue(11, "the nearest double", x, DOUBLES, 1L << 53);
        x.gauge(FLOATS, Long.MAX_VALUE);
        due(11, "a float set at doubles", x.set(1, 0), 1);
        x.get(1, 0);
        gaugeDue(11, "2^63", x, DOUBLES, Long.MAX_VALUE);
    }

    /** All that a gauge can have, set at all rows: a number, a plain probe, a fine one, a line, nothing. */
    private static void setThings() {
        for (int what = 0; what <= 11; what++) {
            for (int kind = 0; kind <= LINES; kind++) {
                ProbeRacks x = new ProbeRacks();
                x.rack(0, kind, 2);
                fill(x, what);
                int has = x.has();
                boolean can = maySet(what, kind);
                due(11, "what " + what + " set at " + kind, x.set(0, 1), can ? 1 : KIND);
                due(11, "has()", x.has(), has);
                due(11, "get(0, 1)", x.get(0, 1), kind < PLAIN ? kind : can ? has : NONE);
                due(11, "get(0, 0)", x.get(0, 0), kind < PLAIN ? kind : NONE);
                fill(x, what);
                int after = what == 11 && kind < PLAIN ? KIND : INDEX;
                due(11, "what " + what + " set after the last of " + kind, x.set(0, 2), after);
                due(11, "what " + what + " set ahead of the first of " + kind, x.set(0, -1), after);
            }
        }
        ProbeRacks x = new ProbeRacks();
        x.rack(0, PLAIN, 1);
        x.probe(false);
        x.set(0, 0);
        x.none();
        due(11, "nothing set at a full place", x.set(0, 0), 1);
        due(11, "get(0, 0)", x.get(0, 0), NONE);
    }

    private static boolean maySet(int what, int kind) {
        if (what < PLAIN) {
            return goesInto(what, kind);
        }
        return what == 11 ? kind >= PLAIN : what == kind || what == FINE && kind == PLAIN;
    }

    private static void fill(ProbeRacks x, int what) {
        if (what < PLAIN) {
            x.gauge(what, 3);
        } else if (what == 11) {
            x.none();
        } else if (what == LINES) {
            x.line(2);
        } else {
            x.probe(what == FINE);
        }
    }

    private static void setOrder() {
        ProbeRacks x = new ProbeRacks();
        x.probe(false);
        x.hang(1);
        x.line(2);
        x.hang(2);
        x.rack(3, PLAIN, 2);
        x.none();
        due(11, "nothing, at nothing", x.set(0, 5), NULL);
        due(11, "nothing, at a probe", x.set(1, 5), KIND);
        due(11, "nothing, at a line", x.set(2, 5), KIND);
        due(11, "nothing, at no place of probes", x.set(3, 5), INDEX);
        x.gauge(LONGS, 1);
        due(11, "a long, at no place of ints", x.set(2, 2), INDEX);
        due(11, "a long, at ints", x.set(2, 1), KIND);
        due(11, "a long, at no place of probes", x.set(3, -1), INDEX);
        due(11, "a long, at probes", x.set(3, 0), KIND);
        x.line(1);
        due(11, "a line, at no place of a line", x.set(2, -1), INDEX);
        due(11, "a line, at a line", x.set(2, 0), KIND);
        x.probe(true);
        due(11, "a probe, at a line", x.set(2, 0), KIND);
        x.gauge(CHARS, 65);
        due(11, "a char, at a line", x.set(2, 0), 1);
        x.get(2, 0);
        gaugeDue(11, "a char, at a line", x, INTS, 65);
    }

    private static void read() {
        for (int kind = 0; kind < 8; kind++) {
            for (int as = 0; as < 8; as++) {
                ProbeRacks x = new ProbeRacks();
                x.rack(0, kind, 2);
                x.gauge(kind, -77);
                x.set(0, 1);
                long v = x.value();
                x.probe(false);
                boolean can = goesInto(kind, as);
                due(12, kind + " read as " + as, x.read(0, 1, as), can ? 1 : KIND);
                gaugeDue(12, kind + " read as " + as, x, can ? as : PLAIN, can ? v : 1);
                due(12, "no place", x.read(0, 2, as), INDEX);
            }
        }
        ProbeRacks x = new ProbeRacks();
        due(12, "read of nothing", x.read(0, 0, INTS), NULL);
        x.rack(0, LONGS, 1);
        for (int w : new int[] {-1, 8, Integer.MIN_VALUE, Integer.MAX_VALUE}) {
            due(12, "read(0, 9, " + w + ")", x.read(0, 9, w), OUTSIDE);
        }
        x.gauge(LONGS, (1L << 53) + 1);
        x.set(0, 0);
        x.read(0, 0, DOUBLES);
        gaugeDue(12, "a long as a double", x, DOUBLES, 1L << 53);
        x.read(0, 0, FLOATS);
        gaugeDue(12, "a long as a float", x, FLOATS, 1L << 53);
        due(12, "no such index", x.read(0, -1, LONGS), INDEX);
        x.line(1);
        x.hang(1);
        due(12, "a line", x.read(1, 0, LONGS), 1);
        for (int kind = PLAIN; kind <= LINES; kind++) {
            x.rack(2, kind, 1);
            due(12, "read of " + kind, x.read(2, 0, INTS), KIND);
            due(12, "read of no place of " + kind, x.read(2, 7, INTS), KIND);
        }
    }

    private static void write() {
        for (int kind = 0; kind < 8; kind++) {
            for (int as = 0; as < 8; as++) {
                ProbeRacks x = new ProbeRacks();
                x.rack(0, kind, 2);
                x.gauge(LONGS, 200);
                boolean can = goesInto(as, kind);
                due(13, "written as " + as + " at " + kind, x.write(0, 1, as), can ? 1 : KIND);
                gaugeDue(13, "the gauge stays", x, LONGS, 200);
                due(13, "no place", x.write(0, 2, as), INDEX);
                x.get(0, 1);
                long v = as == BITS ? 1 : as == BYTES ? -56 : 200;
                gaugeDue(13, "written as " + as + " at " + kind, x, kind, can ? v : 0);
            }
        }
        ProbeRacks x = new ProbeRacks();
        for (int w : new int[] {-1, 8, Integer.MIN_VALUE, Integer.MAX_VALUE}) {
            due(13, "write(0, 9, " + w + ")", x.write(0, 9, w), OUTSIDE);
        }
        due(13, "write of nothing", x.write(0, 0, INTS), STATE);
        x.probe(false);
        x.hang(1);
        due(13, "write of a probe", x.write(0, 0, INTS), STATE);
        x.line(1);
        x.hang(2);
        due(13, "write of a line", x.write(0, 0, INTS), STATE);
        due(13, "no fault yet", x.fault(), 0);
        x.gauge(DOUBLES, Long.MAX_VALUE);
        due(13, "at nothing", x.write(0, 0, INTS), NULL);
        due(13, "at a probe", x.write(1, 0, INTS), KIND);
        due(13, "at a line", x.write(2, 0, INTS), 1);
        due(13, "at no place of a line", x.write(2, -1, LONGS), INDEX);
        due(13, "at a line as a long", x.write(2, 0, LONGS), KIND);
        x.get(2, 0);
        gaugeDue(13, "the lowest 32 bits of 2^63 - 1", x, INTS, -1);
        for (int kind = PLAIN; kind <= LINES; kind++) {
            x.rack(3, kind, 1);
            due(13, "at no place of " + kind, x.write(3, 4, INTS), KIND);
        }
        x.rack(4, DOUBLES, 1);
        x.gauge(LONGS, (1L << 24) + 1);
        x.write(4, 0, FLOATS);
        x.get(4, 0);
        gaugeDue(13, "as a float at doubles", x, DOUBLES, 1L << 24);
    }

    private static void size() {
        ProbeRacks x = new ProbeRacks();
        due(14, "size of nothing", x.size(0), NULL);
        due(14, "fault()", x.fault(), 1);
        x.probe(true);
        x.hang(0);
        due(14, "size of a probe", x.size(0), KIND);
        due(14, "fault()", x.fault(), 2);
        x.line(4);
        x.hang(0);
        due(14, "size of a line", x.size(0), 4);
        x.rack(0, LINES, 11);
        due(14, "size of lines", x.size(0), 11);
    }

    private static ProbeRacks roomOfLines() {
        ProbeRacks x = new ProbeRacks();
        x.rack(0, LINES, 3);
        x.line(2);
        x.set(0, 1);
        x.rack(1, PLAIN, 2);
        x.probe(true);
        x.set(1, 0);
        x.hang(3);
        x.rack(2, LONGS, 1);
        x.gauge(BYTES, -3);
        return x;
    }

    private static void within() {
        ProbeRacks x = roomOfLines();
        due(15, "of nothing", x.within(9, 0, 0), NULL);
        due(15, "of a probe", x.within(3, 0, 0), KIND);
        due(15, "no first place", x.within(0, 3, 0), INDEX);
        due(15, "no first place below", x.within(0, -1, 0), INDEX);
        due(15, "an empty place", x.within(0, 0, 9), NULL);
        due(15, "an empty place of probes", x.within(1, 1, 9), NULL);
        due(15, "a probe's place", x.within(1, 0, 9), KIND);
        due(15, "a number's place", x.within(2, 0, 9), KIND);
        due(15, "no second place", x.within(0, 1, 2), INDEX);
        due(15, "no second place below", x.within(0, 1, -1), INDEX);
        gaugeDue(15, "after faults", x, BYTES, -3);
        due(15, "faults(0)", x.faults(0), 10);
        x.into(0, 1, 1, Integer.MIN_VALUE);
        due(15, "within(0, 1, 1)", x.within(0, 1, 1), 1);
        gaugeDue(15, "within(0, 1, 1)", x, LONGS, Integer.MIN_VALUE);
    }

    private static void into() {
        ProbeRacks x = roomOfLines();
        due(16, "of nothing", x.into(9, 0, 0, 1), NULL);
        due(16, "of a probe", x.into(3, 0, 0, 1), KIND);
        due(16, "no first place", x.into(0, 3, 0, 1), INDEX);
        due(16, "an empty place", x.into(0, 0, 9, 1), NULL);
        due(16, "a probe's place", x.into(1, 0, 9, 1), KIND);
        due(16, "a number's place", x.into(2, 0, 9, 1), KIND);
        due(16, "no second place", x.into(0, 1, 2, 1), INDEX);
        due(16, "no second place below", x.into(0, 1, -1, 1), INDEX);
        due(16, "into(0, 1, 0, -5)", x.into(0, 1, 0, -5), 1);
        gaugeDue(16, "the gauge stays", x, BYTES, -3);
        due(16, "faults(0)", x.faults(0), 8);
        x.within(0, 1, 0);
        due(16, "value()", x.value(), -5);
        x.within(0, 1, 1);
        due(16, "the other place", x.value(), 0);
    }

    private static void pass() {
        ProbeRacks x = new ProbeRacks();
        x.rack(0, SHORTS, 3);
        for (int i = 0; i < 3; i++) {
            x.gauge(SHORTS, -10 * i - 1);
            x.set(0, i);
        }
        x.rack(1, DOUBLES, 5);
        x.probe(true);
        due(17, "pass(0, 1, 6)", x.pass(0, 1, FLOATS), 3);
        gaugeDue(17, "the gauge stays", x, FINE, 1);
        for (int i = 0; i < 5; i++) {
            x.get(1, i);
            gaugeDue(17, "place " + i, x, DOUBLES, i < 3 ? -10 * i - 1 : 0);
        }
        due(17, "pass(0, 0, 3)", x.pass(0, 0, SHORTS), 3);
        due(17, "fault()", x.fault(), 0);
        x.rack(2, LONGS, 1);
        x.gauge(LONGS, (1L << 24) + 1);
        x.set(2, 0);
        due(17, "pass(2, 1, 6)", x.pass(2, 1, FLOATS), 1);
        x.get(1, 0);
        due(17, "by way of a float", x.value(), 1L << 24);
        for (int w : new int[] {-1, 8, Integer.MIN_VALUE, Integer.MAX_VALUE}) {
            due(17, "pass(9, 9, " + w + ")", x.pass(9, 9, w), OUTSIDE);
        }
    }

    private static void passFaults() {
        ProbeRacks x = new ProbeRacks();
        x.gauge(INTS, 6);
        x.rack(0, INTS, 3);
        x.set(0, 0);
        x.set(0, 1);
        x.line(2);
        x.hang(1);
        due(17, "the other is shorter", x.pass(0, 1, INTS), 2);
        due(17, "fault()", x.fault(), 3);
        x.get(1, 1);
        due(17, "value()", x.value(), 6);
        due(17, "of nothing", x.pass(9, 0, INTS), NULL);
        x.probe(false);
        x.hang(2);
        due(17, "of a probe", x.pass(2, 0, INTS), KIND);
        due(17, "faults(0)", x.faults(0), 3);
        due(17, "to nothing", x.pass(0, 9, INTS), 0);
        due(17, "fault()", x.fault(), 1);
        due(17, "to a probe", x.pass(0, 2, INTS), 0);
        due(17, "fault()", x.fault(), 2);
        due(17, "as a kind that it does not go into", x.pass(0, 9, SHORTS), 0);
        due(17, "fault() of the read", x.fault(), 2);
        due(17, "as a kind that does not go into the other", x.pass(0, 1, LONGS), 0);
        x.rack(3, LINES, 2);
        due(17, "of lines", x.pass(3, 9, INTS), 0);
        due(17, "fault()", x.fault(), 2);
        due(17, "faults(0)", x.faults(0), 8);
        x.rack(4, PLAIN, 0);
        due(17, "of no places to nothing", x.pass(4, 9, INTS), 0);
        due(17, "faults(0) once more", x.faults(0), 8);
    }

    private static void takesAndGives() {
        ProbeRacks x = new ProbeRacks();
        due(18, "takes of nothing", x.takes(0), NULL);
        due(19, "gives of nothing", x.gives(0), NULL);
        x.probe(true);
        x.hang(0);
        due(18, "takes of a probe", x.takes(0), KIND);
        due(19, "gives of a probe", x.gives(0), KIND);
        for (int kind = 0; kind <= LINES; kind++) {
            x.rack(0, kind, 0);
            due(18, "takes of no place of " + kind, x.takes(0), INDEX);
            due(19, "gives of no place of " + kind, x.gives(0), INDEX);
        }
        due(18, "faults(0)", x.faults(0), 26);
        int[] taken = {1, 1 << 1, 1 << 2, 0b1010, 0b11110, 0b111110, 0b1111110, 0b11111110};
        for (int kind = 0; kind < 8; kind++) {
            x.rack(0, kind, 1);
            x.gauge(kind, 55);
            x.set(0, 0);
            long v = x.value();
            x.none();
            int given = 0;
            for (int k = 0; k < 8; k++) {
                given |= goesInto(kind, k) ? 1 << k : 0;
            }
            due(18, "takes of " + kind, x.takes(0), taken[kind]);
            due(19, "gives of " + kind, x.gives(0), given);
            gaugeDue(18, "the gauge stays", x, NONE, 0);
            x.get(0, 0);
            gaugeDue(18, "what was there stays", x, kind, v);
        }
        for (int kind = PLAIN; kind <= LINES; kind++) {
            x.rack(0, kind, 1);
            due(18, "takes of " + kind, x.takes(0), 0);
            due(19, "gives of " + kind, x.gives(0), 0);
        }
        x.line(1);
        x.hang(0);
        due(18, "takes of a line", x.takes(0), 0b11110);
        due(19, "gives of a line", x.gives(0), 0b11110000);
        due(18, "faults(0) once more", x.faults(0), 26);
    }

    private static void step() {
        ProbeRacks x = new ProbeRacks();
        due(20, "a below", x.step(9, -1, 99, 0, 9), UNKNOWN);
        due(20, "a above", x.step(9, 10, 99, 0, 9), UNKNOWN);
        due(20, "b below", x.step(0, 0, 0, -1, 0), UNKNOWN);
        due(20, "b above", x.step(0, 0, 0, 10, 0), UNKNOWN);
        due(20, "op below", x.step(-1, 0, 0, 0, 0), OUTSIDE);
        due(20, "op above", x.step(6, 0, 0, 0, 0), OUTSIDE);
        due(20, "i below", x.step(0, 0, -2, 0, 0), OUTSIDE);
        due(20, "i above", x.step(0, 0, 17, 0, 0), OUTSIDE);
        due(20, "k below", x.step(0, 0, 0, 0, -1), OUTSIDE);
        due(20, "k above", x.step(0, 0, 0, 0, 8), OUTSIDE);
        due(20, "the lowest", x.step(0, 0, -1, 0, 0), 1);
        due(20, "the highest", x.step(5, 9, 16, 9, 7), 2);
        for (int n = 3; n <= 12; n++) {
            due(20, "step " + n, x.step(n % 6, 0, 0, 0, 0), n);
        }
        due(20, "step 13", x.step(0, 0, 0, 0, 0), FULL);
        due(20, "step 13, op above", x.step(6, 0, 0, 0, 0), OUTSIDE);
        due(20, "clear()", x.clear(), 12);
        due(20, "no fault by a step not done", x.fault(), 0);
    }

    private static void run() {
        ProbeRacks x = new ProbeRacks();
        x.rack(0, INTS, 2);
        x.gauge(BYTES, 4);
        x.step(1, 0, 0, 0, 0);
        x.step(0, 0, 2, 0, 0);
        x.step(1, 0, 1, 0, 0);
        x.step(0, 9, 0, 0, 0);
        due(21, "run(true)", x.run(true), 1);
        due(21, "met(0)", x.met(0), 0);
        due(21, "met(1)", x.met(1), 3);
        due(21, "met(2)", x.met(2), NONE);
        x.read(0, 1, INTS);
        due(21, "the third was not done", x.value(), 0);
        x.gauge(SHORTS, 8);
        due(21, "run(false)", x.run(false), 2);
        due(21, "met(0)", x.met(0), 0);
        due(21, "met(1)", x.met(1), 3);
        due(21, "met(2)", x.met(2), 0);
        due(21, "met(3)", x.met(3), 1);
        due(21, "fault()", x.fault(), 1);
        due(21, "faults(0)", x.faults(0), 3);
        due(21, "faults(3)", x.faults(3), 2);
        x.get(0, 1);
        due(21, "the third was done", x.value(), 8);
        x.none();
        due(21, "run(true) once more", x.run(true), 0);
        due(21, "met(0)", x.met(0), 2);
        due(21, "met(2) of before is gone", x.met(2), NONE);
        due(21, "the steps stay", x.clear(), 4);
    }

    private static void runFull() {
        ProbeRacks x = new ProbeRacks();
        for (int n = 0; n < 12; n++) {
            x.step(0, n % 2, 0, 0, 0);
        }
        x.rack(1, BITS, 1);
        due(21, "twelve steps", x.run(false), 6);
        due(21, "met(10)", x.met(10), 1);
        due(21, "met(11)", x.met(11), 0);
        due(21, "faults(1)", x.faults(1), 6);
    }

    private static void runKinds() {
        ProbeRacks x = roomOfLines();
        x.into(0, 1, 1, 12);
        x.rack(4, FLOATS, 8);
        x.rack(5, LINES, 8);
        x.none();
        due(21, "a write of nothing", x.step(3, 9, 0, 0, 0), 1);
        due(21, "run(true)", x.run(true), 1);
        due(21, "met(0)", x.met(0), 0);
        x.clear();
        x.gauge(LONGS, (1L << 24) + 1);
        x.step(3, 2, 0, 9, 5);
        x.step(5, 2, 0, 4, 7);
        x.step(5, 0, 1, 5, 7);
        x.step(5, 0, 0, 5, 6);
        due(21, "run(true)", x.run(true), 4);
        gaugeDue(21, "the gauge stays", x, LONGS, (1L << 24) + 1);
        x.get(4, 7);
        gaugeDue(21, "moved into floats", x, FLOATS, 1L << 24);
        due(21, "moved a line", x.get(5, 7), LINES);
        x.hang(6);
        x.get(0, 1);
        x.hang(7);
        due(21, "the same line", x.same(6), 2);
        x.clear();
        x.step(2, 4, 7, 0, 7);
        x.step(4, 0, 1, 0, 1);
        due(21, "run(false)", x.run(false), 2);
        gaugeDue(21, "within", x, LONGS, 12);
        x.clear();
        x.step(2, 4, 7, 0, 7);
        x.run(true);
        gaugeDue(21, "read as a double", x, DOUBLES, 1L << 24);
        x.clear();
        x.step(0, 1, 0, 0, 0);
        x.run(true);
        gaugeDue(21, "got", x, FINE, 1);
        x.clear();
        x.step(5, 0, 0, 4, 0);
        x.step(5, 1, 0, 5, 0);
        x.step(5, 1, 0, 9, 0);
        x.step(5, 9, 0, 4, 0);
        x.step(5, 4, 0, 2, 0);
        x.step(4, 2, 0, 0, 0);
        due(21, "moves with faults", x.run(false), 0);
        int[] met = {2, 2, 1, 1, 2, 2};
        for (int k = 0; k < met.length; k++) {
            due(21, "met(" + k + ")", x.met(k), met[k]);
        }
    }

    private static void met() {
        ProbeRacks x = new ProbeRacks();
        x.step(0, 0, 0, 0, 0);
        due(22, "met(0) ahead of a run", x.met(0), NONE);
        x.run(false);
        due(22, "met(0)", x.met(0), 1);
        x.step(0, 0, 0, 0, 0);
        due(22, "met(0) stays", x.met(0), 1);
        due(22, "met(1) came after the run", x.met(1), NONE);
        x.rack(0, INTS, 1);
        x.run(false);
        due(22, "met(0) of the latest", x.met(0), 0);
        due(22, "met(1) of the latest", x.met(1), 0);
        due(22, "met(2)", x.met(2), NONE);
        due(22, "met(12)", x.met(12), NONE);
        for (int w : WRONG) {
            due(22, "met(" + w + ")", x.met(w), NONE);
        }
    }

    private static void clear() {
        ProbeRacks x = new ProbeRacks();
        x.step(0, 0, 0, 0, 0);
        x.step(0, 0, 0, 0, 0);
        x.run(false);
        due(23, "clear()", x.clear(), 2);
        due(23, "clear() once more", x.clear(), 0);
        due(23, "met(0)", x.met(0), NONE);
        due(23, "run(false)", x.run(false), 0);
        due(23, "step", x.step(1, 0, 0, 0, 0), 1);
        due(23, "met(0) of the new step", x.met(0), NONE);
        due(23, "met(1)", x.met(1), NONE);
        due(23, "fault() stays", x.fault(), 1);
        due(23, "faults(1) stay", x.faults(1), 2);
    }

    private static void faults() {
        ProbeRacks x = new ProbeRacks();
        x.rack(0, INTS, 1);
        x.get(0, 1);
        due(24, "fault() INDEX", x.fault(), 3);
        x.read(0, 0, BITS);
        due(24, "fault() KIND", x.fault(), 2);
        x.set(9, 0);
        due(24, "fault() NULL", x.fault(), 1);
        x.get(0, -1);
        x.get(0, 0);
        due(24, "fault() stays", x.fault(), 3);
        x.rack(0, 99, 0);
        x.get(99, 0);
        x.none();
        x.hang(0);
        due(24, "other answers are no fault", x.fault(), 3);
        due(25, "faults(0)", x.faults(0), 4);
        due(25, "faults(1)", x.faults(1), 1);
        due(25, "faults(2)", x.faults(2), 1);
        due(25, "faults(3)", x.faults(3), 2);
        due(25, "faults(4)", x.faults(4), NONE);
        for (int w : WRONG) {
            due(25, "faults(" + w + ")", x.faults(w), NONE);
        }
        x.step(0, 9, 0, 0, 0);
        x.run(false);
        due(24, "fault() of a step", x.fault(), 1);
        due(25, "faults(1) with a step's", x.faults(1), 2);
    }

    private static void hasAndValue() {
        ProbeRacks x = new ProbeRacks();
        due(26, "has() of nothing", x.has(), NONE);
        due(27, "value() of nothing", x.value(), 0);
        for (int kind = 0; kind < 8; kind++) {
            x.gauge(kind, 1);
            due(26, "has() of " + kind, x.has(), kind);
            due(27, "value() of " + kind, x.value(), 1);
        }
        x.probe(false);
        x.probe(false);
        due(26, "has() of a plain probe", x.has(), PLAIN);
        due(27, "value() of a plain probe", x.value(), 2);
        x.probe(true);
        due(26, "has() of a fine probe", x.has(), FINE);
        due(27, "value() of a fine probe", x.value(), 3);
        x.line(4);
        due(26, "has() of a line", x.has(), LINES);
        due(27, "value() of a line", x.value(), 4);
        x.line(0);
        due(26, "has() of a line of none", x.has(), LINES);
        due(27, "value() of a line of none", x.value(), 0);
    }

    private static void told() {
        ProbeRacks x = new ProbeRacks();
        due(28, "told of nothing", x.told(0), NONE);
        for (int kind = 0; kind <= LINES; kind++) {
            x.rack(0, kind, 0);
            due(28, "told of " + kind, x.told(0), kind);
        }
        x.probe(false);
        x.hang(0);
        due(28, "told of a plain probe", x.told(0), 11);
        x.probe(true);
        x.hang(0);
        due(28, "told of a fine probe", x.told(0), 12);
        x.line(0);
        x.hang(0);
        due(28, "told of a line", x.told(0), INTS);
    }

    private static void same() {
        ProbeRacks x = new ProbeRacks();
        due(29, "same of nothing", x.same(0), 0);
        x.rack(0, INTS, 2);
        x.rack(1, INTS, 2);
        due(29, "same of a row like another", x.same(0), 1);
        for (int r = 1; r < 10; r++) {
            x.share(r, 0);
            due(29, "same(" + r + ")", x.same(r), r + 1);
        }
        x.probe(true);
        x.hang(2);
        x.hang(4);
        due(29, "same of a probe", x.same(4), 2);
        due(29, "same of the row", x.same(0), 8);
        x.probe(true);
        x.hang(4);
        due(29, "same of another probe", x.same(4), 1);
    }

    private static void unknownRacks() {
        ProbeRacks x = new ProbeRacks();
        x.line(1);
        for (int r : new int[] {-1, 10, Integer.MIN_VALUE, Integer.MAX_VALUE}) {
            due(2, "rack(" + r + ")", x.rack(r, INTS, 1), UNKNOWN);
            due(3, "hang(" + r + ")", x.hang(r), UNKNOWN);
            due(4, "share(" + r + ", 0)", x.share(r, 0), UNKNOWN);
            due(4, "share(0, " + r + ")", x.share(0, r), UNKNOWN);
            due(5, "empty(" + r + ")", x.empty(r), UNKNOWN);
            due(10, "get(" + r + ", 0)", x.get(r, 0), UNKNOWN);
            due(11, "set(" + r + ", 0)", x.set(r, 0), UNKNOWN);
            due(12, "read(" + r + ", 0, 4)", x.read(r, 0, INTS), UNKNOWN);
            due(13, "write(" + r + ", 0, 4)", x.write(r, 0, INTS), UNKNOWN);
            due(14, "size(" + r + ")", x.size(r), UNKNOWN);
            due(15, "within(" + r + ", 0, 0)", x.within(r, 0, 0), UNKNOWN);
            due(16, "into(" + r + ", 0, 0, 0)", x.into(r, 0, 0, 0), UNKNOWN);
            due(17, "pass(" + r + ", 0, 4)", x.pass(r, 0, INTS), UNKNOWN);
            due(17, "pass(0, " + r + ", 4)", x.pass(0, r, INTS), UNKNOWN);
            due(18, "takes(" + r + ")", x.takes(r), UNKNOWN);
            due(19, "gives(" + r + ")", x.gives(r), UNKNOWN);
            due(20, "step(0, " + r + ", 0, 0, 0)", x.step(0, r, 0, 0, 0), UNKNOWN);
            due(20, "step(0, 0, 0, " + r + ", 0)", x.step(0, 0, 0, r, 0), UNKNOWN);
            due(28, "told(" + r + ")", x.told(r), UNKNOWN);
            due(29, "same(" + r + ")", x.same(r), UNKNOWN);
        }
        gaugeDue(26, "after unknown racks", x, LINES, 1);
        due(25, "faults(0)", x.faults(0), 0);
    }

    private static void unknownComesFirst() {
        ProbeRacks x = new ProbeRacks();
        due(2, "rack(10, 99, 99)", x.rack(10, 99, 99), UNKNOWN);
        due(3, "hang(10) of nothing", x.hang(10), UNKNOWN);
        due(12, "read(10, 0, 99)", x.read(10, 0, 99), UNKNOWN);
        due(13, "write(10, 0, 99) of nothing", x.write(10, 0, 99), UNKNOWN);
        due(17, "pass(0, 10, 99)", x.pass(0, 10, 99), UNKNOWN);
    }
}
