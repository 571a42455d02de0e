import java.util.function.Supplier;
import java.util.function.ToIntFunction;

/** A room with something of every sort in its racks, what can be told of all of it, and what a refused call leaves. */
abstract class Room extends Sentences {
    static final int UNKNOWN = -1, OUTSIDE = -2, STATE = -3, FULL = -4, NONE = -9;
    static final int NULL = -11, KIND = -12, INDEX = -13;
    static final int BITS = 0, BYTES = 1, CHARS = 2, SHORTS = 3, INTS = 4, LONGS = 5, FLOATS = 6, DOUBLES = 7;
    static final int PLAIN = 8, FINE = 9, LINES = 10;
    static final int TOP = Integer.MAX_VALUE, BOTTOM = Integer.MIN_VALUE;

    // The racks of full().
    static final int ROW_OF_INTS = 0, ROW_OF_LINES = 1, ROW_OF_PLAIN = 2, ROW_OF_FINE = 3, A_PLAIN = 4, A_FINE = 5,
        A_LINE = 6, NO_PLACES = 7, ROW_OF_BYTES = 8, NOTHING = 9;

    static final int[] NO_RACKS = {-1, 10, BOTTOM, TOP};
    static final int[] NO_KINDS = {-1, 8, BOTTOM, TOP};
    static final int[] ALL_CONTENTS = {0, 1, 2, 3, 4, 5, 6, 7, PLAIN, FINE, LINES, NONE};

    // Written out from the document, line by line.
    private static final String[] GOES_INTO = {"0", "134567", "24567", "34567", "4567", "567", "67", "7"};

    static boolean goesInto(int kind, int other) {
        return GOES_INTO[kind].indexOf((char) ('0' + other)) >= 0;
    }

    static long lowestOf(int kind) {
        long[] lowest = {0, Byte.MIN_VALUE, 0, Short.MIN_VALUE, BOTTOM, Long.MIN_VALUE, Long.MIN_VALUE, Long.MIN_VALUE};
        return lowest[kind];
    }

    static long highestOf(int kind) {
        long[] highest = {1, Byte.MAX_VALUE, Character.MAX_VALUE, Short.MAX_VALUE, TOP, Long.MAX_VALUE, Long.MAX_VALUE,
            Long.MAX_VALUE};
        return highest[kind];
    }

    /** Something of every sort in the racks, two steps that have been done, and a gauge with what is asked for. */
    static ProbeRacks full(int gauge) {
        ProbeRacks x = new ProbeRacks();
        rowOf(x, ROW_OF_INTS, INTS, 5, -6, 7);
        x.rack(ROW_OF_LINES, LINES, 3);
        x.line(0);
        x.set(ROW_OF_LINES, 2);
        x.line(2);
        x.set(ROW_OF_LINES, 0);
        x.hang(A_LINE);
        x.into(ROW_OF_LINES, 0, 0, 8);
        x.into(ROW_OF_LINES, 0, 1, -9);
        x.rack(ROW_OF_PLAIN, PLAIN, 3);
        x.rack(ROW_OF_FINE, FINE, 2);
        x.probe(false);
        x.set(ROW_OF_PLAIN, 0);
        x.hang(A_PLAIN);
        x.probe(true);
        x.set(ROW_OF_PLAIN, 1);
        x.set(ROW_OF_FINE, 0);
        x.hang(A_FINE);
        x.rack(NO_PLACES, LONGS, 0);
        rowOf(x, ROW_OF_BYTES, BYTES, -77);
        x.step(0, ROW_OF_INTS, 0, 0, 0);
        x.step(0, ROW_OF_INTS, 3, 0, 0);
        x.run(true);
        fillGauge(x, gauge);
        return x;
    }

    static void rowOf(ProbeRacks x, int rack, int kind, long... values) {
        x.rack(rack, kind, values.length);
        for (int i = 0; i < values.length; i++) {
            x.gauge(kind, values[i]);
            x.set(rack, i);
        }
    }

    /** A number of 300 as its kind, or the probes and the line of full()'s racks: 0 .. 10, else nothing. */
    static void fillGauge(ProbeRacks x, int what) {
        if (what >= 0 && what < PLAIN) {
            x.gauge(what, 300);
        } else if (what == PLAIN) {
            x.get(ROW_OF_PLAIN, 0);
        } else if (what == FINE) {
            x.get(ROW_OF_FINE, 0);
        } else if (what == LINES) {
            x.get(ROW_OF_LINES, 0);
        } else {
            x.none();
        }
    }

    /** All that the calls tell of a room but its faults; the room is of no use after that. */
    static String tellAll(ProbeRacks x) {
        StringBuilder all = new StringBuilder("gauge " + x.has() + "/" + x.value());
        for (int r = 0; r < 10; r++) {
            int size = x.size(r);
            all.append("; ").append(x.told(r)).append(" x").append(x.same(r)).append(" of ").append(size);
            for (int i = 0; i < size; i++) {
                all.append(' ').append(x.get(r, i)).append('/').append(x.value());
                for (int j = 0; j < 4 && x.told(r) == LINES && x.within(r, i, j) == 1; j++) {
                    all.append(':').append(x.value());
                }
            }
        }
        all.append("; met");
        for (int k = 0; k < 12; k++) {
            all.append(' ').append(x.met(k));
        }
        all.append("; steps ").append(x.clear());
        return all.append("; next probe ").append(x.probe(false)).toString();
    }

    static String tellFaults(ProbeRacks x) {
        return x.fault() + " of " + x.faults(0) + " " + x.faults(1) + " " + x.faults(2) + " " + x.faults(3);
    }

    /** The act answers that, and leaves the room as it was but for the fault that such an answer is. */
    static void refused(String call, Supplier<ProbeRacks> rooms, ToIntFunction<ProbeRacks> act, int want) {
        ProbeRacks x = rooms.get();
        ProbeRacks untouched = rooms.get();
        due(call, act.applyAsInt(x), want);
        int fault = want <= NULL ? -10 - want : 0;
        due("fault() after " + call, x.fault(), fault == 0 ? untouched.fault() : fault);
        for (int of = 0; of <= 3; of++) {
            int more = fault != 0 && (of == 0 || of == fault) ? 1 : 0;
            due("faults(" + of + ") after " + call, x.faults(of), untouched.faults(of) + more);
        }
        due("the room after " + call, tellAll(x), tellAll(untouched));
    }

    static void refused(String call, int gauge, ToIntFunction<ProbeRacks> act, int want) {
        refused(call + " with gauge " + gauge, () -> full(gauge), act, want);
    }

    /** As refused, with every sort of thing in the gauge. */
    static void alwaysRefused(String call, ToIntFunction<ProbeRacks> act, int want) {
        for (int gauge : ALL_CONTENTS) {
            refused(call, gauge, act, want);
        }
    }
}
