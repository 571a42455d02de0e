import java.lang.reflect.Array;
import java.util.Random;

/**
 * Seeded runs of calls, each answer held against a model made of Java's own arrays and java.lang.reflect.Array:
 * there the machine itself tells the faults, where the class under test has to look ahead.
 */
public final class ReflectTest {
    private static final int RUNS = 3000, CALLS = 512;
    private static final long[] EDGES = {
        0, 1, -1, 127, 128, 255, 256, 32767, 32768, 65535, 65536, (1L << 24) + 1, (1L << 24) + 3, 1L << 31,
        (1L << 32) - 1, (1L << 53) + 1, (1L << 53) + 3, Long.MAX_VALUE, Long.MAX_VALUE - 511, Long.MIN_VALUE,
        Long.MIN_VALUE + 1, (1L << 60) + (1L << 36) + 1,
    };

    private static class Plain {
        private final int number;

        private Plain(int number) {
            this.number = number;
        }
    }

    private static final class Fine extends Plain {
        private Fine(int number) {
            super(number);
        }
    }

    private static final Class<?>[] KINDS = {
        boolean.class, byte.class, char.class, short.class, int.class, long.class, float.class, double.class,
        Plain.class, Fine.class, int[].class,
    };
    private static final Class<?>[] BOXES = {
        Boolean.class, Byte.class, Character.class, Short.class, Integer.class, Long.class, Float.class, Double.class,
        Plain.class, Fine.class, int[].class,
    };

    /** The document told once more, by other means. */
    private static final class Model {
        private final Object[] racks = new Object[10];
        private Object gauge = null;
        private final int[][] steps = new int[12][];
        private Integer[] met = new Integer[12];
        private int stepCount = 0, probes = 0, latest = 0;
        private final int[] counts = new int[4];

        private static boolean rackAt(int r) {
            return r >= 0 && r <= 9;
        }

        private static boolean number(int kind) {
            return kind >= 0 && kind <= 7;
        }

        private static Object box(int kind, long v) {
            switch (kind) {
                case 0: return v != 0;
                case 1: return (byte) v;
                case 2: return (char) v;
                case 3: return (short) v;
                case 4: return (int) v;
                case 5: return v;
                case 6: return (float) v;
                default: return (double) v;
            }
        }

        private static Object readAs(Object row, int i, int as) {
            switch (as) {
                case 0: return Array.getBoolean(row, i);
                case 1: return Array.getByte(row, i);
                case 2: return Array.getChar(row, i);
                case 3: return Array.getShort(row, i);
                case 4: return Array.getInt(row, i);
                case 5: return Array.getLong(row, i);
                case 6: return Array.getFloat(row, i);
                default: return Array.getDouble(row, i);
            }
        }

        private static void writeAs(Object row, int i, Object v) {
            if (v instanceof Boolean b) {
                Array.setBoolean(row, i, b);
            } else if (v instanceof Byte b) {
                Array.setByte(row, i, b);
            } else if (v instanceof Character c) {
                Array.setChar(row, i, c);
            } else if (v instanceof Short s) {
                Array.setShort(row, i, s);
            } else if (v instanceof Integer n) {
                Array.setInt(row, i, n);
            } else if (v instanceof Long n) {
                Array.setLong(row, i, n);
            } else if (v instanceof Float f) {
                Array.setFloat(row, i, f);
            } else {
                Array.setDouble(row, i, (Double) v);
            }
        }

        private static int kindOf(Object v) {
            for (int kind = 0; kind < BOXES.length; kind++) {
                if (v != null && v.getClass() == BOXES[kind]) {
                    return kind;
                }
            }
            return -9;
        }

        private static long valueOf(Object v) {
            if (v == null) {
                return 0;
            }
            if (v instanceof Boolean b) {
                return b ? 1 : 0;
            }
            if (v instanceof Character c) {
                return c;
            }
            if (v instanceof Number n) {
                return n.longValue();
            }
            return v instanceof Plain p ? p.number : Array.getLength(v);
        }

        private int told(RuntimeException e) {
            return e instanceof NullPointerException ? 1 : e instanceof IllegalArgumentException ? 2 : 3;
        }

        private int came(int fault) {
            latest = fault;
            counts[fault]++;
            counts[0]++;
            return -10 - fault;
        }

        private int act(int op, int a, int i, int b, int k, long v) {
            Object row = racks[a];
            switch (op) {
                case 0:
                    gauge = Array.get(row, i);
                    return kindOf(gauge);
                case 1:
                    Array.set(row, i, gauge);
                    return 1;
                case 2:
                    gauge = readAs(row, i, k);
                    return 1;
                case 3:
                    writeAs(row, i, box(k, valueOf(gauge)));
                    return 1;
                case 4:
                    gauge = Array.getLong(Array.get(row, i), k);
                    return 1;
                case 5:
                    Array.set(racks[b], k, Array.get(row, i));
                    return 1;
                case 6:
                    Array.setInt(Array.get(row, i), k, (int) v);
                    return 1;
                case 7:
                    return Array.getLength(row);
                default:
                    return mask(op == 8, row);
            }
        }

        private int mask(boolean takes, Object row) {
            if (Array.getLength(row) == 0) {
                throw new ArrayIndexOutOfBoundsException();
            }
            Object was = Array.get(row, 0);
            int bits = 0;
            for (int k = 0; k < 8; k++) {
                try {
                    if (takes) {
                        writeAs(row, 0, box(k, 0));
                    } else {
                        readAs(row, 0, k);
                    }
                    bits |= 1 << k;
                } catch (IllegalArgumentException e) {
                    // Those that can not are no fault.
                }
            }
            Array.set(row, 0, was);
            return bits;
        }

        private int tried(int op, int a, int i, int b, int k, long v) {
            try {
                return act(op, a, i, b, k, v);
            } catch (NullPointerException | IllegalArgumentException | ArrayIndexOutOfBoundsException e) {
                return came(told(e));
            }
        }

        private int pass(int rack, int to, int as) {
            int n = tried(7, rack, 0, 0, 0, 0);
            for (int i = 0; i < n; i++) {
                try {
                    writeAs(racks[to], i, readAs(racks[rack], i, as));
                } catch (NullPointerException | IllegalArgumentException | ArrayIndexOutOfBoundsException e) {
                    came(told(e));
                    return i;
                }
            }
            return n;
        }

        private int run(boolean stops) {
            met = new Integer[12];
            int without = 0;
            for (int s = 0; s < stepCount; s++) {
                int[] t = steps[s];
                boolean idle = t[0] == 3 && !number(kindOf(gauge));
                int before = counts[0];
                if (!idle) {
                    tried(t[0], t[1], t[2], t[3], t[4], 0);
                }
                boolean faulty = counts[0] > before;
                met[s] = faulty ? latest : 0;
                without += faulty ? 0 : 1;
                if (faulty && stops) {
                    break;
                }
            }
            return without;
        }

        private int step(int op, int a, int i, int b, int k) {
            if (!rackAt(a) || !rackAt(b)) {
                return -1;
            }
            if (op < 0 || op > 5 || i < -1 || i > 16 || !number(k)) {
                return -2;
            }
            if (stepCount == 12) {
                return -4;
            }
            steps[stepCount++] = new int[] {op, a, i, b, k};
            return stepCount;
        }

        private int same(int rack) {
            int count = 0;
            for (Object thing : racks) {
                count += thing != null && thing == racks[rack] ? 1 : 0;
            }
            return count;
        }

        private int toldOf(Object thing) {
            if (thing == null) {
                return -9;
            }
            if (thing instanceof Plain) {
                return thing instanceof Fine ? 12 : 11;
            }
            int kind = 0;
            while (KINDS[kind] != thing.getClass().getComponentType()) {
                kind++;
            }
            return kind;
        }
    }

    private final ProbeRacks x = new ProbeRacks();
    private final Model m = new Model();
    private final Random random;
    private int wrong = 0;
    private String call = "";

    private ReflectTest(int seed) {
        random = new Random(seed);
    }

    public static void main(String[] args) {
        int wrong = 0;
        for (int seed = 0; seed < RUNS; seed++) {
            wrong += new ReflectTest(seed).go(seed);
        }
        System.out.println("ReflectTest: " + RUNS + " runs of " + CALLS + " calls, " + wrong + " with a wrong answer");
        if (wrong != 0) {
            System.exit(1);
        }
    }

    private int go(int seed) {
        for (int c = 0; c < CALLS && wrong == 0; c++) {
            one(random.nextInt(34));
            if (wrong != 0) {
                System.out.println("run " + seed + ", call " + c + ": " + call);
            }
        }
        return wrong;
    }

    private void due(String name, long got, long want) {
        if (got != want) {
            wrong = 1;
            call = name + " answered " + got + ", due is " + want;
        }
    }

    /** Mostly racks 0 to 4, so that calls meet. */
    private int aRack() {
        int r = random.nextInt(40);
        return r == 39 ? 10 : r == 38 ? -1 : r < 34 ? r % 5 : r - 28;
    }

    private int aKind(int above) {
        int r = random.nextInt(30);
        return r == 29 ? -1 : r == 28 ? above : r % above;
    }

    private int aPlace() {
        int r = random.nextInt(40);
        return r == 39 ? 16 : r == 38 ? -1 : r == 37 ? Integer.MIN_VALUE : r == 36 ? 15 : r % 5;
    }

    private long aLong() {
        int r = random.nextInt(3);
        return r == 0 ? EDGES[random.nextInt(EDGES.length)] : r == 1 ? random.nextLong() : random.nextInt(400) - 200;
    }

    private void one(int which) {
        if (which < 9) {
            making(which);
        } else if (which < 24) {
            looking(which);
        } else {
            stepping(which);
        }
    }

    private void making(int which) {
        int rack = aRack();
        boolean there = Model.rackAt(rack);
        if (which < 2) {
            int kind = aKind(11);
            int n = random.nextInt(25) == 0 ? 17 : random.nextInt(random.nextInt(8) + 1);
            boolean outside = kind < 0 || kind > 10 || n > 16;
            due("rack", x.rack(rack, kind, n), !there ? -1 : outside ? -2 : n);
            if (there && !outside) {
                m.racks[rack] = Array.newInstance(KINDS[kind], n);
            }
        } else if (which == 2) {
            boolean can = m.gauge instanceof Plain || m.gauge instanceof int[];
            due("hang", x.hang(rack), !there ? -1 : can ? 1 : -3);
            if (there && can) {
                m.racks[rack] = m.gauge;
            }
        } else if (which == 3) {
            int from = aRack();
            there = there && Model.rackAt(from);
            due("share", x.share(rack, from), there ? 1 : -1);
            if (there) {
                m.racks[rack] = m.racks[from];
            }
        } else if (which == 4) {
            boolean skip = random.nextInt(4) != 0;
            if (!skip) {
                due("empty", x.empty(rack), there ? 1 : -1);
                if (there) {
                    m.racks[rack] = null;
                }
            }
        } else {
            filling(which);
        }
    }

    private void filling(int which) {
        if (which == 5) {
            int kind = aKind(8);
            long v = aLong();
            due("gauge", x.gauge(kind, v), Model.number(kind) ? 1 : -2);
            if (Model.number(kind)) {
                m.gauge = Model.box(kind, v);
            }
        } else if (which == 6) {
            boolean fine = random.nextBoolean();
            boolean full = m.probes == 40;
            due("probe", x.probe(fine), full ? -4 : m.probes + 1);
            if (!full) {
                m.probes++;
                m.gauge = fine ? new Fine(m.probes) : new Plain(m.probes);
            }
        } else if (which == 7) {
            int n = random.nextInt(7) - 1;
            due("line", x.line(n), n >= 0 && n <= 4 ? 1 : -2);
            if (n >= 0 && n <= 4) {
                m.gauge = new int[n];
            }
        } else {
            due("none", x.none(), 1);
            m.gauge = null;
        }
    }

    private void looking(int which) {
        int rack = aRack();
        int i = aPlace();
        int j = aPlace();
        int as = aKind(8);
        int v = (int) aLong();
        boolean there = Model.rackAt(rack);
        boolean kind = Model.number(as);
        if (which < 11) {
            due("get", x.get(rack, i), there ? m.tried(0, rack, i, 0, 0, 0) : -1);
        } else if (which < 14) {
            due("set", x.set(rack, i), there ? m.tried(1, rack, i, 0, 0, 0) : -1);
        } else if (which < 16) {
            due("read", x.read(rack, i, as), !there ? -1 : !kind ? -2 : m.tried(2, rack, i, 0, as, 0));
        } else if (which < 18) {
            boolean number = Model.number(Model.kindOf(m.gauge));
            int want = !there ? -1 : !kind ? -2 : !number ? -3 : m.tried(3, rack, i, 0, as, 0);
            due("write", x.write(rack, i, as), want);
        } else if (which == 18) {
            due("size", x.size(rack), there ? m.tried(7, rack, 0, 0, 0, 0) : -1);
        } else if (which == 19) {
            due("within", x.within(rack, i, j), there ? m.tried(4, rack, i, 0, j, 0) : -1);
        } else if (which == 20) {
            due("into", x.into(rack, i, j, v), there ? m.tried(6, rack, i, 0, j, v) : -1);
        } else if (which == 21) {
            int to = aRack();
            int want = !there || !Model.rackAt(to) ? -1 : !kind ? -2 : m.pass(rack, to, as);
            due("pass", x.pass(rack, to, as), want);
        } else if (which == 22) {
            due("takes", x.takes(rack), there ? m.tried(8, rack, 0, 0, 0, 0) : -1);
        } else {
            due("gives", x.gives(rack), there ? m.tried(9, rack, 0, 0, 0, 0) : -1);
        }
    }

    private void stepping(int which) {
        int rack = aRack();
        if (which < 27) {
            int op = random.nextInt(30) == 0 ? 6 : random.nextInt(6);
            int i = aPlace();
            int b = aRack();
            int k = aKind(8);
            due("step", x.step(op, rack, i, b, k), m.step(op, rack, i, b, k));
        } else if (which == 27) {
            boolean stops = random.nextBoolean();
            due("run", x.run(stops), m.run(stops));
        } else if (which == 28) {
            int k = random.nextInt(14) - 1;
            due("met", x.met(k), k < 0 || k > 11 || m.met[k] == null ? -9 : m.met[k]);
        } else if (which == 29) {
            if (random.nextInt(4) == 0) {
                due("clear", x.clear(), m.stepCount);
                m.stepCount = 0;
                m.met = new Integer[12];
            }
        } else if (which == 30) {
            int of = random.nextInt(6) - 1;
            due("fault", x.fault(), m.latest);
            due("faults", x.faults(of), of < 0 || of > 3 ? -9 : m.counts[of]);
        } else if (which == 31) {
            due("has", x.has(), Model.kindOf(m.gauge));
            due("value", x.value(), Model.valueOf(m.gauge));
        } else if (which == 32) {
            due("told", x.told(rack), Model.rackAt(rack) ? m.toldOf(m.racks[rack]) : -1);
        } else {
            due("same", x.same(rack), Model.rackAt(rack) ? m.same(rack) : -1);
        }
    }
}
