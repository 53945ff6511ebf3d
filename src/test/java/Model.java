import java.math.BigInteger;
import java.util.ArrayDeque;
import java.util.ArrayList;
import java.util.Arrays;
import java.util.Comparator;
import java.util.HashSet;
import java.util.List;
import java.util.Set;
import java.util.TreeMap;
import java.util.stream.Collectors;
import java.util.stream.IntStream;

/**
 * The document once more, with what the class may not use: real arrays, heirs, exceptions, Math.sqrt, bits of doubles.
 * What the machine throws here is what the document calls a FAILURE.
 */
public final class Model {
    static final int NONE = -1, UNKNOWN = -2000000001, OUTSIDE = -2000000002, STATE = -2000000003, FULL = -2000000004, FAILED = -2000000010;

    interface Body {
        long answer();
    }

    static final class Word extends RuntimeException {
        final int word;

        Word(int word) {
            super(null, null, false, false);
            this.word = word;
        }
    }

    static final class Answer extends RuntimeException {
        final int answer;

        Answer(int answer) {
            super(null, null, false, false);
            this.answer = answer;
        }
    }

    static final class HaulStore extends ArrayStoreException {
        final int hanging;

        HaulStore(int hanging) {
            this.hanging = hanging;
        }
    }

    private int failure;
    private int word;

    static int numberOf(RuntimeException e) {
        if (e instanceof NullPointerException) return 1;
        if (e instanceof IndexOutOfBoundsException) return 2;
        if (e instanceof NegativeArraySizeException) return 3;
        if (e instanceof ClassCastException) return 4;
        if (e instanceof ArrayStoreException) return 5;
        if (e instanceof ArithmeticException) return 6;
        if (e instanceof IllegalMonitorStateException) return 7;
        if (e instanceof Word) return 8;
        throw e;
    }

    private long guard(Body body) {
        try {
            long answer = body.answer();
            failure = 0;
            word = 0;
            return answer;
        } catch (RuntimeException e) {
            failure = numberOf(e);
            word = e instanceof Word w ? w.word : e instanceof HaulStore h ? h.hanging : 0;
            return FAILED - failure;
        }
    }

    static double real(long bits) {
        return Double.longBitsToDouble(bits);
    }

    static long bits(double d) {
        return Double.doubleToLongBits(d);
    }

    static boolean in(long x, long low, long high) {
        return low <= x && x <= high;
    }

    static boolean badName(int number, List<?> of) {
        return number != NONE && !in(number, 0, of.size() - 1);
    }

    static <T> T at(List<T> of, int number) {
        return number == NONE ? null : of.get(number);
    }

    // ---- cells of real arrays

    static Object cells(int kind, int n) {
        switch (kind) {
            case 0: return new short[n];
            case 1: return new int[n];
            case 2: return new float[n];
            case 3: return new double[n];
            case 4: return new char[n];
            case 5: return new byte[n];
            case 6: return new boolean[n];
            default: return new long[n];
        }
    }

    static int kindOf(Object a) {
        return a instanceof short[] ? 0 : a instanceof int[] ? 1 : a instanceof float[] ? 2 : a instanceof double[] ? 3
                : a instanceof char[] ? 4 : a instanceof byte[] ? 5 : a instanceof boolean[] ? 6 : 7;
    }

    static int lengthOf(Object a) {
        return java.lang.reflect.Array.getLength(a);
    }

    static void setWhole(Object a, int i, long v) {
        if (a == null) throw new NullPointerException();
        if (a instanceof short[] c) c[i] = (short) v;
        else if (a instanceof int[] c) c[i] = (int) v;
        else if (a instanceof float[] c) c[i] = v;
        else if (a instanceof double[] c) c[i] = v;
        else if (a instanceof char[] c) c[i] = (char) v;
        else if (a instanceof byte[] c) c[i] = (byte) v;
        else if (a instanceof boolean[] c) c[i] = v != 0;
        else ((long[]) a)[i] = v;
    }

    static void setReal(Object a, int i, double d) {
        if (a == null) throw new NullPointerException();
        if (a instanceof short[] c) c[i] = (short) d;
        else if (a instanceof int[] c) c[i] = (int) d;
        else if (a instanceof float[] c) c[i] = (float) d;
        else if (a instanceof double[] c) c[i] = d;
        else if (a instanceof char[] c) c[i] = (char) (int) d;
        else if (a instanceof byte[] c) c[i] = (byte) d;
        else if (a instanceof boolean[] c) c[i] = d != 0.0;
        else ((long[]) a)[i] = (long) d;
    }

    static long whole(Object a, int i) {
        if (a == null) throw new NullPointerException();
        if (a instanceof short[] c) return c[i];
        if (a instanceof int[] c) return c[i];
        if (a instanceof float[] c) return (long) c[i];
        if (a instanceof double[] c) return (long) c[i];
        if (a instanceof char[] c) return c[i];
        if (a instanceof byte[] c) return c[i];
        if (a instanceof boolean[] c) return c[i] ? 1 : 0;
        return ((long[]) a)[i];
    }

    static double toReal(Object a, int i) {
        if (a instanceof float[] c) return c[i];
        if (a instanceof double[] c) return c[i];
        return whole(a, i);
    }

    static void more(Object a, int i, long v) {
        if (a == null) throw new NullPointerException();
        if (a instanceof short[] c) c[i] += v;
        else if (a instanceof int[] c) c[i] += v;
        else if (a instanceof float[] c) c[i] += v;
        else if (a instanceof double[] c) c[i] += v;
        else if (a instanceof char[] c) c[i] += v;
        else if (a instanceof byte[] c) c[i] += v;
        else if (a instanceof boolean[] c) c[i] ^= v % 2 != 0;
        else ((long[]) a)[i] += v;
    }

    private final List<Object> rows = new ArrayList<>();
    private final List<Object[]> beds = new ArrayList<>();

    public int row(int kind, int n) {
        if (!in(kind, 0, 7) || n > 64) return OUTSIDE;
        if (rows.size() == 40) return FULL;
        return (int) guard(() -> {
            rows.add(cells(kind, n));
            return rows.size() - 1;
        });
    }

    public int put(int row, int i, long v) {
        if (badName(row, rows)) return UNKNOWN;
        return (int) guard(() -> {
            setWhole(at(rows, row), i, v);
            return 1;
        });
    }

    public int putReal(int row, int i, long bits) {
        if (badName(row, rows)) return UNKNOWN;
        return (int) guard(() -> {
            setReal(at(rows, row), i, real(bits));
            return 1;
        });
    }

    public long get(int row, int i) {
        if (badName(row, rows)) return UNKNOWN;
        return guard(() -> whole(at(rows, row), i));
    }

    public long getReal(int row, int i) {
        if (badName(row, rows)) return UNKNOWN;
        return guard(() -> bits(toReal(at(rows, row), i)));
    }

    public long raise(int row, int i, long v, boolean before) {
        if (badName(row, rows)) return UNKNOWN;
        return guard(() -> {
            Object a = at(rows, row);
            long was = whole(a, i);
            more(a, i, v);
            return before ? was : whole(a, i);
        });
    }

    public int join(int a, int b) {
        if (badName(a, rows) || badName(b, rows)) return UNKNOWN;
        Object x = at(rows, a);
        Object y = at(rows, b);
        if (x != null && y != null) {
            if (lengthOf(x) + lengthOf(y) > 64) return OUTSIDE;
            if (rows.size() == 40) return FULL;
        }
        return (int) guard(() -> {
            if (y == null) throw new NullPointerException();
            int n = lengthOf(x);
            Object z = cells(kindOf(x), n + lengthOf(y));
            System.arraycopy(x, 0, z, 0, n);
            System.arraycopy(y, 0, z, n, lengthOf(y));
            rows.add(z);
            return rows.size() - 1;
        });
    }

    public int shift(int from, int i, int to, int k, int n) {
        if (badName(from, rows) || badName(to, rows)) return UNKNOWN;
        return (int) guard(() -> {
            System.arraycopy(at(rows, from), i, at(rows, to), k, n);
            return 1;
        });
    }

    public int like(int a, int b) {
        if (badName(a, rows) || badName(b, rows)) return UNKNOWN;
        return Arrays.deepEquals(new Object[] {at(rows, a)}, new Object[] {at(rows, b)}) ? 1 : 0;
    }

    public int count(int row, int what) {
        if (badName(row, rows)) return UNKNOWN;
        if (!in(what, 0, 2)) return OUTSIDE;
        return (int) guard(() -> {
            Object a = at(rows, row);
            int n = lengthOf(a);
            return what == 0 ? n : what == 1 ? kindOf(a) : IntStream.range(0, n).filter(i -> whole(a, i) != 0).count();
        });
    }

    public int find(int row, long v) {
        if (badName(row, rows)) return UNKNOWN;
        return (int) guard(() -> {
            Object a = at(rows, row);
            return IntStream.range(0, lengthOf(a)).filter(i -> whole(a, i) == v).max().orElse(-1);
        });
    }

    public long mean(int row) {
        if (badName(row, rows)) return UNKNOWN;
        return guard(() -> {
            Object a = at(rows, row);
            return IntStream.range(0, lengthOf(a)).mapToLong(i -> whole(a, i)).sum() / lengthOf(a);
        });
    }

    public int bed(int kind, int strips, int cells) {
        if (kind != 1 && kind != 3 && kind != 6 || strips > 16 || cells > 64) return OUTSIDE;
        if (beds.size() == 20) return FULL;
        return (int) guard(() -> {
            if (cells == -1) {
                beds.add(kind == 1 ? new int[strips][] : kind == 3 ? new double[strips][] : new boolean[strips][]);
            } else {
                beds.add(kind == 1 ? new int[strips][cells] : kind == 3 ? new double[strips][cells] : new boolean[strips][cells]);
            }
            return beds.size() - 1;
        });
    }

    public int lay(int bed, int i, int row) {
        if (bed == NONE || badName(bed, beds) || badName(row, rows)) return UNKNOWN;
        return (int) guard(() -> {
            beds.get(bed)[i] = at(rows, row);
            return 1;
        });
    }

    public long spot(int bed, int i, int j) {
        if (bed == NONE || badName(bed, beds)) return UNKNOWN;
        return guard(() -> whole(beds.get(bed)[i], j));
    }

    public int setSpot(int bed, int i, int j, long v) {
        if (bed == NONE || badName(bed, beds)) return UNKNOWN;
        return (int) guard(() -> {
            setWhole(beds.get(bed)[i], j, v);
            return 1;
        });
    }

    public int bare(int bed, int k) {
        if (bed == NONE || badName(bed, beds)) return UNKNOWN;
        Object[] strips = beds.get(bed);
        int[] none = IntStream.range(0, strips.length).filter(i -> strips[i] == null).toArray();
        return k == -1 ? none.length : in(k, 0, none.length - 1) ? none[k] : NONE;
    }

    // ---- things of real heirs

    interface Faced {
        int sign();
        int weight();
    }

    interface Reads extends Faced {
        default int reading() {
            return 10 * sign() + weight();
        }
    }

    interface Strong extends Faced {
        default int strength() {
            return 5 * weight() + sign();
        }
    }

    interface Costs extends Faced {
        default int cost() {
            return weight() * weight();
        }
    }

    abstract static class Thing implements Faced {
        int load;
        final int atMaking;

        Thing(int load) {
            atMaking = sign() * 1000 + this.load;
            this.load = load;
        }

        public int weight() {
            return load;
        }
    }

    static class Floater extends Thing implements Reads {
        Floater(int load) {
            super(load);
        }

        public int sign() {
            return 11;
        }
    }

    static class Wire extends Floater implements Costs {
        Wire(int load) {
            super(load);
        }

        @Override public int sign() {
            return 12;
        }

        @Override public int weight() {
            return super.weight() + 7;
        }

        @Override public int reading() {
            return 3 * weight();
        }
    }

    static class Flap extends Thing implements Strong {
        Flap(int load) {
            super(load);
        }

        public int sign() {
            return 21;
        }
    }

    static class Roller extends Flap implements Costs {
        Roller(int load) {
            super(load);
        }

        @Override public int strength() {
            return super.strength() + 100;
        }
    }

    static class Earth extends Thing implements Strong {
        Earth(int load) {
            super(load);
        }

        public int sign() {
            return 31;
        }
    }

    static class Stone extends Earth implements Costs {
        Stone(int load) {
            super(load);
        }

        @Override public int sign() {
            return 32;
        }

        @Override public int weight() {
            return 2 * super.weight();
        }

        @Override public int cost() {
            return Costs.super.cost() - sign();
        }
    }

    private static final Class<?>[] BUILT = {Floater.class, Wire.class, Flap.class, Roller.class, Earth.class, Stone.class,
        Reads.class, Strong.class, Costs.class, Object.class};

    private final List<Thing> things = new ArrayList<>();
    private final List<Object[]> racks = new ArrayList<>();
    private final Object[] boxes = new Object[10];

    public int thing(int sort, int load) {
        if (!in(sort, 0, 5) || !in(load, 0, 1000)) return OUTSIDE;
        if (things.size() == 40) return FULL;
        things.add(sort == 0 ? new Floater(load) : sort == 1 ? new Wire(load) : sort == 2 ? new Flap(load)
                : sort == 3 ? new Roller(load) : sort == 4 ? new Earth(load) : new Stone(load));
        return things.size() - 1;
    }

    static int ask(Object of, int ask) {
        if (of == null) throw new NullPointerException();
        switch (ask) {
            case 0: return ((Thing) of).sign();
            case 1: return ((Thing) of).weight();
            case 2: return ((Reads) of).reading();
            case 3: return ((Strong) of).strength();
            case 4: return ((Costs) of).cost();
            default: return ((Thing) of).atMaking;
        }
    }

    public int says(int thing, int ask) {
        if (badName(thing, things)) return UNKNOWN;
        if (!in(ask, 0, 5)) return OUTSIDE;
        return (int) guard(() -> ask(at(things, thing), ask));
    }

    public int rack(int built, int n) {
        if (!in(built, 0, 9) || n > 16) return OUTSIDE;
        if (racks.size() == 20) return FULL;
        return (int) guard(() -> {
            racks.add((Object[]) java.lang.reflect.Array.newInstance(BUILT[built], n));
            return racks.size() - 1;
        });
    }

    public int hang(int rack, int i, int thing) {
        if (badName(rack, racks) || badName(thing, things)) return UNKNOWN;
        return (int) guard(() -> {
            at(racks, rack)[i] = at(things, thing);
            return 1;
        });
    }

    public int down(int rack, int i, int as) {
        if (badName(rack, racks)) return UNKNOWN;
        if (!in(as, 0, 9)) return OUTSIDE;
        return (int) guard(() -> {
            Object was = BUILT[as].cast(at(racks, rack)[i]);
            at(racks, rack)[i] = null;
            return things.indexOf(was);
        });
    }

    public int hung(int rack, int i) {
        if (badName(rack, racks)) return UNKNOWN;
        return (int) guard(() -> things.indexOf(at(racks, rack)[i]));
    }

    public int asked(int rack, int i, int ask) {
        if (badName(rack, racks)) return UNKNOWN;
        if (!in(ask, 0, 5)) return OUTSIDE;
        return (int) guard(() -> ask(at(racks, rack)[i], ask));
    }

    public int haul(int from, int i, int to, int k, int n) {
        if (badName(from, racks) || badName(to, racks)) return UNKNOWN;
        return (int) guard(() -> {
            Object[] a = at(racks, from);
            Object[] b = at(racks, to);
            Object[] was = b == null ? null : b.clone();
            try {
                System.arraycopy(a, i, b, k, n);
            } catch (ArrayStoreException e) {
                int hanging = 0;
                while (a[i + hanging] == null || b.getClass().getComponentType().isInstance(a[i + hanging])) hanging++;
                for (int j = 0; j < b.length; j++) {
                    Object want = j >= k && j < k + hanging ? a[i + j - k] : was[j];
                    if (b[j] != want) throw new IllegalStateException("the machine copies otherwise");
                }
                throw new HaulStore(hanging);
            }
            return n;
        });
    }

    public int box(int box, int what, int number) {
        if (!in(box, 0, 9)) return UNKNOWN;
        if (!in(what, 0, 4)) return OUTSIDE;
        List<?> of = what == 1 ? rows : what == 2 ? things : what == 3 ? racks : beds;
        if (what != 0 && !in(number, 0, of.size() - 1)) return UNKNOWN;
        boxes[box] = what == 0 ? null : of.get(number);
        return 1;
    }

    static final Class<?>[] BOXED = {short[].class, int[].class, float[].class, double[].class, char[].class, byte[].class,
        boolean[].class, long[].class, Thing.class, Reads.class, Wire.class, Reads[].class, Floater[].class, int[][].class};

    public int isA(int box, int kind) {
        if (!in(box, 0, 9)) return UNKNOWN;
        if (!in(kind, 0, 13)) return OUTSIDE;
        return BOXED[kind].isInstance(boxes[box]) ? 1 : 0;
    }

    public int taken(int box, int kind) {
        if (!in(box, 0, 9)) return UNKNOWN;
        if (!in(kind, 0, 13)) return OUTSIDE;
        return (int) guard(() -> {
            Object o = BOXED[kind].cast(boxes[box]);
            return o == null ? NONE : o instanceof Thing ? things.indexOf(o) : lengthOf(o);
        });
    }

    public int used(int box) {
        if (!in(box, 0, 9)) return UNKNOWN;
        return (int) guard(() -> boxes[box] instanceof Thing t ? t.weight() : lengthOf(boxes[box]));
    }

    static final class Card {
        byte b;
        short s;
        char c;
        int i;
        long l;
        float f;
        double d;
        boolean t;
        Card next;
        Thing thing;

        void set(int field, long v) {
            switch (field) {
                case 0 -> b = (byte) v;
                case 1 -> s = (short) v;
                case 2 -> c = (char) v;
                case 3 -> i = (int) v;
                case 4 -> l = v;
                case 5 -> f = v;
                case 6 -> d = v;
                default -> t = v != 0;
            }
        }

        long tell(int field) {
            switch (field) {
                case 0: return b;
                case 1: return s;
                case 2: return c;
                case 3: return i;
                case 4: return l;
                case 5: return (long) f;
                case 6: return (long) d;
                default: return t ? 1 : 0;
            }
        }

        void more(int field, long v) {
            switch (field) {
                case 0 -> b += v;
                case 1 -> s += v;
                case 2 -> c += v;
                case 3 -> i += v;
                case 4 -> l += v;
                case 5 -> f += v;
                case 6 -> d += v;
                default -> t ^= (v & 1) == 1;
            }
        }
    }

    private final List<Card> cards = new ArrayList<>();

    public int card() {
        if (cards.size() == 20) return FULL;
        cards.add(new Card());
        return cards.size() - 1;
    }

    public int field(int card, int f, long v) {
        if (badName(card, cards)) return UNKNOWN;
        if (!in(f, 0, 7)) return OUTSIDE;
        return (int) guard(() -> {
            at(cards, card).set(f, v);
            return 1;
        });
    }

    public long fieldOf(int card, int f) {
        if (badName(card, cards)) return UNKNOWN;
        if (!in(f, 0, 7)) return OUTSIDE;
        return guard(() -> at(cards, card).tell(f));
    }

    public long raiseField(int card, int f, long v, boolean before) {
        if (badName(card, cards)) return UNKNOWN;
        if (!in(f, 0, 7)) return OUTSIDE;
        return guard(() -> {
            Card c = at(cards, card);
            long was = c.tell(f);
            c.more(f, v);
            return before ? was : c.tell(f);
        });
    }

    public int link(int card, int next, int thing) {
        if (badName(card, cards) || badName(next, cards) || badName(thing, things)) return UNKNOWN;
        return (int) guard(() -> {
            Card c = at(cards, card);
            c.next = at(cards, next);
            c.thing = at(things, thing);
            return 1;
        });
    }

    public int along(int card, int n) {
        if (badName(card, cards)) return UNKNOWN;
        if (!in(n, 0, 100)) return OUTSIDE;
        return (int) guard(() -> {
            Card c = at(cards, card);
            if (c == null) throw new NullPointerException();
            for (int i = 0; i < n && c != null; i++) c = c.next;
            return cards.indexOf(c);
        });
    }

    public int ring(int card) {
        if (badName(card, cards)) return UNKNOWN;
        return (int) guard(() -> {
            Card c = at(cards, card);
            if (c == null) throw new NullPointerException();
            Set<Card> seen = new HashSet<>();
            while (c != null && seen.add(c)) c = c.next;
            return cards.indexOf(c);
        });
    }

    public int cardAsk(int card, int ask) {
        if (badName(card, cards)) return UNKNOWN;
        if (!in(ask, 0, 5)) return OUTSIDE;
        return (int) guard(() -> ask(at(cards, card).thing, ask));
    }

    public int copy(int card) {
        if (badName(card, cards)) return UNKNOWN;
        if (card != NONE && cards.size() == 20) return FULL;
        return (int) guard(() -> {
            Card from = at(cards, card);
            Card c = new Card();
            c.b = from.b;
            c.s = from.s;
            c.c = from.c;
            c.i = from.i;
            c.l = from.l;
            c.f = from.f;
            c.d = from.d;
            c.t = from.t;
            c.next = from.next;
            c.thing = from.thing;
            cards.add(c);
            return cards.size() - 1;
        });
    }

    // ---- flows, sums

    public long flow(int row, int what) {
        if (badName(row, rows)) return UNKNOWN;
        if (!in(what, 0, 6)) return OUTSIDE;
        Object a = at(rows, row);
        if (a != null && kindOf(a) != 2 && kindOf(a) != 3) return STATE;
        return guard(() -> bits(flowOf(IntStream.range(0, lengthOf(a)).mapToDouble(i -> toReal(a, i)).toArray(), what)));
    }

    private static double flowOf(double[] all, int what) {
        if (what >= 4) {
            if (all.length == 0 || Arrays.stream(all).anyMatch(Double::isNaN)) return Double.NaN;
            return flowOf(all, what - 4);
        }
        double[] numbers = Arrays.stream(all).filter(d -> !Double.isNaN(d)).toArray();
        if (numbers.length == 0) return Double.NaN;
        if (what == 3) {
            Arrays.sort(numbers);
            return numbers[(numbers.length - 1) / 2];
        }
        double best = numbers[0];
        double sum = 0.0;
        for (double d : numbers) {
            if (what == 0 ? d < best : d > best) best = d;
            sum += d;
        }
        return what == 2 ? sum / numbers.length : best;
    }

    public int test(int row, int i, int j, int op, boolean denied) {
        if (badName(row, rows)) return UNKNOWN;
        if (!in(op, 0, 5)) return OUTSIDE;
        Object a = at(rows, row);
        if (a != null && kindOf(a) != 2 && kindOf(a) != 3) return STATE;
        return (int) guard(() -> {
            if (a == null) throw new NullPointerException();
            boolean so;
            if (a instanceof float[] f) {
                float x = f[i];
                float y = f[j];
                so = op == 0 ? x < y : op == 1 ? x <= y : op == 2 ? x > y : op == 3 ? x >= y : op == 4 ? x == y : x != y;
            } else {
                double x = ((double[]) a)[i];
                double y = ((double[]) a)[j];
                so = op == 0 ? x < y : op == 1 ? x <= y : op == 2 ? x > y : op == 3 ? x >= y : op == 4 ? x == y : x != y;
            }
            return so ^ denied ? 1 : 0;
        });
    }

    public long quotient(long a, long b, int what) {
        if (!in(what, 0, 5)) return OUTSIDE;
        return guard(() -> {
            switch (what) {
                case 0: return a / b;
                case 1: return a % b;
                case 2: return (int) a / (int) b;
                case 3: return (int) a % (int) b;
                default:
                    BigInteger x = BigInteger.valueOf(a);
                    BigInteger y = BigInteger.valueOf(b);
                    BigInteger z = what == 4 ? x.add(y) : x.subtract(y);
                    return z.min(BigInteger.valueOf(Long.MAX_VALUE)).max(BigInteger.valueOf(Long.MIN_VALUE)).longValue();
            }
        });
    }

    // ---- acts by real exceptions

    @SuppressWarnings("unchecked")
    private final List<int[]>[] plans = new List[12];
    private final int[] depth = new int[4];
    private final int[] notches = new int[4];
    private final List<Integer> signals = new ArrayList<>();
    private long stock;
    private int latestAnswer;
    private int latestSteps;
    private int latestPutBy;

    {
        for (int p = 0; p < 12; p++) plans[p] = new ArrayList<>();
    }

    public int step(int plan, int op, int a, int b, int c, int d) {
        if (!in(plan, 0, 11)) return UNKNOWN;
        boolean fine = in(op, 0, 9);
        if (op == 1) fine = in(a, 0, 1000000000);
        if (op == 2) fine = in(a, 1, 8) && in(b, 0, 99);
        if (op == 3 || op == 4) fine = in(a, 0, 3);
        if (op == 6 || op == 7) fine = in(a, 0, 11);
        if (op == 7) fine &= in(b, 0, 9) && in(c, -1, 11) && in(d, -1, 11);
        if (!fine) return OUTSIDE;
        if (plans[plan].size() == 12) return FULL;
        plans[plan].add(new int[] {op, a, b, c, d});
        return plans[plan].size();
    }

    public int wipe(int plan) {
        if (!in(plan, 0, 11)) return UNKNOWN;
        int n = plans[plan].size();
        plans[plan].clear();
        return n;
    }

    private void perform(int plan, int deep) {
        if (deep == 9) throw new Word(3);
        ArrayDeque<Integer> holds = new ArrayDeque<>();
        try {
            for (int[] s : plans[plan]) {
                if (latestSteps == 48) throw new Word(3);
                latestSteps++;
                performStep(s, deep, holds);
            }
        } finally {
            while (!holds.isEmpty()) depth[holds.pop()]--;
        }
    }

    private void performStep(int[] s, int deep, ArrayDeque<Integer> holds) {
        int a = s[1];
        int b = s[2];
        switch (s[0]) {
            case 0 -> setWhole(in(a, 0, rows.size() - 1) ? rows.get(a) : null, b, s[3]);
            case 1 -> {
                if (stock < a) throw new Word(1);
                stock -= a;
            }
            case 2 -> {
                switch (a) {
                    case 1: throw new NullPointerException();
                    case 2: throw new ArrayIndexOutOfBoundsException();
                    case 3: throw new NegativeArraySizeException();
                    case 4: throw new ClassCastException();
                    case 5: throw new ArrayStoreException();
                    case 6: throw new ArithmeticException();
                    case 7: throw new IllegalMonitorStateException();
                    default: throw new Word(b);
                }
            }
            case 3 -> {
                depth[a]++;
                holds.push(a);
            }
            case 4 -> {
                if (depth[a] == 0) throw new IllegalMonitorStateException();
                notches[a] = (int) Math.max(0L, Math.min(100L, (long) notches[a] + b));
            }
            case 5 -> {
                if (signals.size() < 60) signals.add(a);
            }
            case 6 -> perform(a, deep + 1);
            case 7 -> attempt(s, deep);
            case 8 -> throw new Answer(a);
            default -> {
                long by = (long) a / b;
                if (!in(stock + by, 0, 1000000000000000L)) throw new Word(2);
                stock += by;
            }
        }
    }

    private void attempt(int[] s, int deep) {
        boolean underWay = true;
        try {
            try {
                perform(s[1], deep + 1);
            } catch (Answer e) {
                throw e;
            } catch (RuntimeException e) {
                int n = numberOf(e);
                if (s[2] != 0 && s[2] != n && !(s[2] == 9 && n <= 7)) throw e;
                if (s[3] != NONE) perform(s[3], deep + 1);
            }
            underWay = false;
        } finally {
            if (s[4] != NONE) {
                boolean left = false;
                try {
                    perform(s[4], deep + 1);
                    left = true;
                } finally {
                    if (!left && underWay) latestPutBy++;
                }
            }
        }
    }

    private static Object copyOf(Object a) {
        Object b = cells(kindOf(a), lengthOf(a));
        System.arraycopy(a, 0, b, 0, lengthOf(a));
        return b;
    }

    public int act(int plan) {
        if (!in(plan, 0, 11)) return UNKNOWN;
        latestAnswer = 0;
        latestSteps = 0;
        latestPutBy = 0;
        List<Object> before = rows.stream().map(Model::copyOf).collect(Collectors.toList());
        long stockBefore = stock;
        long answer = guard(() -> {
            try {
                perform(plan, 1);
                return 0;
            } catch (Answer e) {
                latestAnswer = e.answer;
                return 1;
            }
        });
        if (answer < 0) {
            stock = stockBefore;
            for (int r = 0; r < rows.size(); r++) System.arraycopy(before.get(r), 0, rows.get(r), 0, lengthOf(rows.get(r)));
        }
        return (int) answer;
    }

    public int raised(int what) {
        return !in(what, 0, 4) ? OUTSIDE : new int[] {failure, word, latestAnswer, latestSteps, latestPutBy}[what];
    }

    public long stock(long n) {
        if (!in(n, 0, 1000000000000000L)) return OUTSIDE;
        long was = stock;
        stock = n;
        return was;
    }

    public int gate(int gate, int what) {
        if (!in(gate, 0, 3)) return UNKNOWN;
        return what == 0 ? depth[gate] : what == 1 ? notches[gate] : OUTSIDE;
    }

    public int signal(int i) {
        return in(i, 0, signals.size() - 1) ? signals.get(i) : NONE;
    }

    // ---- the lake

    private double volume = 100000.0;
    private double snow;
    private double ground;
    private double inflow;
    private double out;
    private double spill;
    private double lack;
    private double rate = 0.125;
    private final double[] opening = new double[4];
    private final boolean[] stuck = new boolean[4];
    private final double[] hand = {Double.NaN, Double.NaN, Double.NaN, Double.NaN};
    private final int[] moves = new int[4];
    private int unheard;
    private double[] nextReadings = noReadings();
    private double nextWord = Double.NaN;
    /** Of each STEP so far. */
    private final List<double[]> readings = new ArrayList<>();
    private final List<Double> told = new ArrayList<>();
    private int[] heard = new int[6];

    private static double[] noReadings() {
        double[] none = new double[6];
        Arrays.fill(none, Double.NaN);
        return none;
    }

    static double units(int k) {
        return 1000.0 * k * k + 2000.0 * k;
    }

    static double level(double v) {
        int k = 39;
        while (units(k) > v) k--;
        return k + (v - units(k)) / (units(k + 1) - units(k));
    }

    public long table(int k) {
        return guard(() -> {
            long[] t = new long[41];
            for (int i = 0; i <= 40; i++) t[i] = (long) units(i);
            return t[k];
        });
    }

    public long turned(long bits) {
        double v = real(bits);
        return v >= 0.0 && v <= 1680000.0 ? bits(level(v)) : OUTSIDE;
    }

    private static boolean beyond(long bits, double low, double high) {
        return real(bits) < low || real(bits) > high;
    }

    public int reading(int gauge, long bits) {
        if (!in(gauge, 0, 5)) return UNKNOWN;
        if (beyond(bits, -1000.0, 1000.0)) return OUTSIDE;
        nextReadings[gauge] = real(bits);
        return 1;
    }

    public int word(long bits) {
        if (beyond(bits, 0.0, 100.0)) return OUTSIDE;
        nextWord = real(bits);
        return 1;
    }

    public int stuck(int gate, boolean is) {
        if (!in(gate, 0, 3)) return UNKNOWN;
        boolean was = stuck[gate];
        stuck[gate] = is;
        return was ? 1 : 0;
    }

    public int hand(int gate, long bits) {
        if (!in(gate, 0, 3)) return UNKNOWN;
        if (beyond(bits, 0.0, 1.0)) return OUTSIDE;
        hand[gate] = real(bits);
        return 1;
    }

    public int rate(long bits) {
        if (Double.isNaN(real(bits)) || beyond(bits, 0.0, 1.0)) return OUTSIDE;
        rate = real(bits);
        return 1;
    }

    private double readingAt(int gauge, int step) {
        return step < 1 ? Double.NaN : readings.get(step - 1)[gauge];
    }

    private boolean hangs(int g, int step) {
        Set<Long> own = new HashSet<>();
        for (int s = step - 3; s <= step; s++) own.add(bits(readingAt(g, s)));
        if (own.size() != 1 || Double.isNaN(readingAt(g, step))) return false;
        for (int h = 0; h < 6; h++) {
            Set<Long> other = new HashSet<>();
            for (int s = step - 3; s <= step; s++) {
                if (!Double.isNaN(readingAt(h, s))) other.add(bits(readingAt(h, s)));
            }
            if (h != g && other.size() > 1) return true;
        }
        return false;
    }

    private boolean far(int g, int step) {
        return step >= 2 && Math.abs(readingAt(g, step) - told.get(step - 2)) > 0.5;
    }

    private boolean jumps(int g, int step) {
        return far(g, step) && !(far(g, step - 1) && far(g, step - 2) && far(g, step - 3));
    }

    private static double root(double level) {
        return level > 0.0 ? Math.sqrt(level) : 0.0;
    }

    public int run(long rainBits, long warmthBits) {
        double r = real(rainBits);
        double c = real(warmthBits);
        if (!(r >= 0.0 && r <= 1000000.0 && c >= -100.0 && c <= 100.0)) return OUTSIDE;
        readings.add(nextReadings);
        nextReadings = noReadings();
        int step = readings.size();
        if (c > 0.0) {
            double m = Math.min(snow, 2.0 * c);
            snow = snow - m;
            ground = ground + r + m;
        } else {
            snow = snow + r;
        }
        inflow = ground * 0.25;
        ground = ground - inflow;
        double voice = voiceAt(step);
        if (!Double.isNaN(nextWord)) voice = nextWord;
        nextWord = Double.NaN;
        unheard = Double.isNaN(voice) ? unheard + 1 : 0;
        double levelTold = Double.isNaN(voice) ? level(volume) : voice;
        told.add(levelTold);
        steer(step, levelTold);
        double l = level(volume);
        out = 0.0;
        for (int g = 0; g < 4; g++) out += opening[g] * 400.0 * root(l);
        double x = l - 30.0;
        spill = x > 0.0 ? x * x * 150.0 : 0.0;
        double v = volume + inflow - out - spill;
        lack = v < 0.0 ? -v : 0.0;
        if (v > units(40)) spill += v - units(40);
        volume = v < 0.0 ? 0.0 : v > units(40) ? units(40) : v;
        return step;
    }

    private double voiceAt(int step) {
        List<Double> voices = new ArrayList<>();
        for (int g = 0; g < 6; g++) {
            heard[g] = Double.isNaN(readingAt(g, step)) ? 1 : hangs(g, step) ? 2 : jumps(g, step) ? 3 : 0;
            if (heard[g] == 0) voices.add(readingAt(g, step));
        }
        // A stable sort that takes 0.0 and -0.0 as alike.
        voices.sort((a, b) -> a < b ? -1 : a > b ? 1 : 0);
        return voices.isEmpty() ? Double.NaN : voices.get((voices.size() - 1) / 2);
    }

    private void steer(int step, double levelTold) {
        List<Integer> order = IntStream.range(0, 4).boxed().sorted(Comparator.comparingInt(g -> moves[g])).collect(Collectors.toList());
        int rule = firstRule(step % 366, levelTold);
        double left = rule == NONE ? 0.0 : rules.get(rule).out;
        double full = 400.0 * root(levelTold);
        for (int g : order) {
            double o = opening[g];
            if (stuck[g]) {
                opening[g] = o;
            } else if (!Double.isNaN(hand[g])) {
                opening[g] = hand[g];
            } else {
                double target = unheard >= 3 ? 0.5 : full == 0.0 || !(left > 0.0) ? 0.0 : Math.min(left / full, 1.0);
                double d = target - o;
                if (d > rate) d = rate;
                if (d < -rate) d = -rate;
                opening[g] = o + d;
            }
            left = left - opening[g] * full;
            if (bits(o) != bits(opening[g])) moves[g]++;
        }
    }

    public long lake(int what) {
        if (!in(what, 0, 13)) return OUTSIDE;
        if (what >= 10) return bits(opening[what - 10]);
        double latest = told.isEmpty() ? Double.NaN : told.get(told.size() - 1);
        return bits(new double[] {volume, level(volume), latest, ground, snow, inflow, out, spill, lack, rate}[what]);
    }

    public int heard(int gauge) {
        if (!in(gauge, 0, 5)) return UNKNOWN;
        return told.isEmpty() ? NONE : heard[gauge];
    }

    public int moved(int gate, int what) {
        if (!in(gate, 0, 3)) return UNKNOWN;
        if (!in(what, 0, 2)) return OUTSIDE;
        return what == 0 ? moves[gate] : (what == 1 ? stuck[gate] : hand[gate] == hand[gate]) ? 1 : 0;
    }

    public int about(int what) {
        if (!in(what, 0, 10)) return OUTSIDE;
        return new int[] {told.size(), unheard, rows.size(), beds.size(), things.size(), racks.size(), cards.size(),
            signals.size(), rules.size(), rights.size(), bookings}[what];
    }

    // ---- rules, rights, floods

    record Rule(int rank, int from, int to, double low, double high, double out) {
    }

    static final class Right {
        int rank;
        int share;
        long most;
        long have;

        long wants() {
            return most - have;
        }
    }

    private final List<Rule> rules = new ArrayList<>();
    private final List<Right> rights = new ArrayList<>();

    public int rule(int rank, int from, int to, long low, long high, long out) {
        double l = real(low);
        double h = real(high);
        double o = real(out);
        if (!in(rank, 0, 99) || from < 0 || to < from || to > 365 || l != l || h != h || !(o >= 0.0 && o <= 1000000.0)) return OUTSIDE;
        if (rules.size() == 12) return FULL;
        rules.add(new Rule(rank, from, to, l, h, o));
        return rules.size() - 1;
    }

    private int firstRule(int day, double level) {
        return IntStream.range(0, rules.size()).boxed().sorted(Comparator.comparingInt(i -> rules.get(i).rank())).filter(i -> {
            Rule r = rules.get(i);
            return in(day, r.from(), r.to()) && level >= r.low() && level < r.high();
        }).findFirst().orElse(NONE);
    }

    public int ruleAt(int day, long level) {
        return !in(day, 0, 365) || Double.isNaN(real(level)) ? OUTSIDE : firstRule(day, real(level));
    }

    public int right(int rank, int share, long most) {
        if (!in(rank, 0, 99) || !in(share, 0, 1000) || !in(most, 0, 1000000000000L)) return OUTSIDE;
        if (rights.size() == 12) return FULL;
        Right r = new Right();
        r.rank = rank;
        r.share = share;
        r.most = most;
        rights.add(r);
        return rights.size() - 1;
    }

    public long part(long n) {
        if (!in(n, 0, 1000000000000000L)) return OUTSIDE;
        TreeMap<Integer, List<Right>> byRank = new TreeMap<>();
        for (Right r : rights) byRank.computeIfAbsent(r.rank, k -> new ArrayList<>()).add(r);
        long left = n;
        for (List<Right> rank : byRank.values()) {
            long ahead = left;
            if (rank.stream().mapToLong(Right::wants).sum() <= left) {
                for (Right r : rank) {
                    left -= r.wants();
                    r.have = r.most;
                }
                continue;
            }
            int shares = rank.stream().mapToInt(r -> r.share).sum();
            for (Right r : rank) {
                BigInteger part = shares == 0 ? BigInteger.ZERO
                        : BigInteger.valueOf(ahead).multiply(BigInteger.valueOf(r.share)).divide(BigInteger.valueOf(shares));
                long gets = Math.min(part.longValueExact(), r.wants());
                r.have += gets;
                left -= gets;
            }
            for (Right r : rank) {
                long gets = Math.min(left, r.wants());
                r.have += gets;
                left -= gets;
            }
        }
        return n - left;
    }

    public long has(int right) {
        return in(right, 0, rights.size() - 1) ? rights.get(right).have : UNKNOWN;
    }

    public long close() {
        long had = rights.stream().mapToLong(r -> r.have).sum();
        rights.forEach(r -> r.have = 0);
        return had;
    }

    private int hours = 12;
    private final double[][] ahead = new double[6][12];
    private final double[] release = new double[8];

    {
        for (double[] run : ahead) Arrays.fill(run, Double.NaN);
        Arrays.fill(release, Double.NaN);
    }

    public int hours(int n) {
        if (!in(n, 1, 12)) return OUTSIDE;
        int were = hours;
        hours = n;
        return were;
    }

    public int ahead(int run, int hour, long bits) {
        if (!in(run, 0, 5)) return UNKNOWN;
        if (!in(hour, 0, 11) || beyond(bits, 0.0, 1000000.0)) return OUTSIDE;
        ahead[run][hour] = real(bits);
        return 1;
    }

    public int release(int k, long bits) {
        if (!in(k, 0, 7)) return UNKNOWN;
        if (beyond(bits, 0.0, 1000000.0)) return OUTSIDE;
        release[k] = real(bits);
        return 1;
    }

    private boolean lacks(int run) {
        return Arrays.stream(ahead[run], 0, hours).anyMatch(Double::isNaN);
    }

    /** Volumes hour by hour, then the LOSS. */
    private double[] routing(int run, double x) {
        double[] volumes = new double[hours + 1];
        double v = volume;
        double peak = 0.0;
        for (int h = 0; h < hours; h++) {
            v = v + ahead[run][h] - x;
            if (v < 0.0) v = 0.0;
            volumes[h] = v;
            peak = Math.max(peak, v - 960000.0);
        }
        volumes[hours] = peak * peak + x * 10.0;
        return volumes;
    }

    private boolean there(int k) {
        return in(k, 0, 7) && !Double.isNaN(release[k]);
    }

    public long routed(int run, int k, int hour) {
        if (!in(run, 0, 5) || !there(k)) return UNKNOWN;
        if (!in(hour, 0, hours - 1)) return OUTSIDE;
        return bits(lacks(run) ? Double.NaN : routing(run, release[k])[hour]);
    }

    private double regretOf(int k) {
        return IntStream.range(0, 6).filter(r -> !lacks(r)).mapToDouble(r -> routing(r, release[k])[hours]).max().orElse(0.0);
    }

    public long regret(int k) {
        return there(k) ? bits(regretOf(k)) : UNKNOWN;
    }

    public int chosen() {
        int best = NONE;
        for (int k = 7; k >= 0; k--) {
            if (!there(k)) continue;
            if (best == NONE || regretOf(k) < regretOf(best) || regretOf(k) == regretOf(best) && release[k] <= release[best]) best = k;
        }
        return best;
    }

    public int peak(int run) {
        if (!in(run, 0, 5)) return UNKNOWN;
        if (lacks(run)) return NONE;
        int best = hours - 1;
        for (int h = hours - 1; h >= 0; h--) if (ahead[run][h] >= ahead[run][best]) best = h;
        return best;
    }

    public int chance(long mark, int part) {
        if (!in(part, 0, 1) || Double.isNaN(real(mark))) return OUTSIDE;
        return (int) IntStream.range(0, 6).filter(r -> !lacks(r))
                .filter(r -> part == 1 || Arrays.stream(ahead[r], 0, hours).anyMatch(d -> d > real(mark))).count();
    }

    // ---- the book

    private int bookings;
    private final byte[][] pages = new byte[32][32];

    static int sum(byte[] page) {
        int s = 0;
        for (int i = 0; i < 28; i++) s = Integer.rotateLeft(s ^ Byte.toUnsignedInt(page[i]), 7) * 0xC2B2AE3D;
        return s;
    }

    public int book(int row) {
        if (badName(row, rows)) return UNKNOWN;
        Object a = at(rows, row);
        if (a != null && lengthOf(a) > 24) return OUTSIDE;
        return (int) guard(() -> {
            int n = lengthOf(a);
            java.nio.ByteBuffer page = java.nio.ByteBuffer.allocate(32);
            page.putShort((short) (bookings + 1)).put((byte) n);
            for (int i = 0; i < n; i++) page.put((byte) whole(a, i));
            page.putInt(28, sum(page.array()));
            pages[bookings % 32] = page.array();
            return ++bookings;
        });
    }

    public int pageByte(int page, int i) {
        return (int) guard(() -> Byte.toUnsignedInt(pages[page][i]));
    }

    public int damage(int page, int i, int mask) {
        if (!in(mask, 1, 255)) return OUTSIDE;
        return (int) guard(() -> {
            pages[page][i] ^= (byte) mask;
            return 1;
        });
    }

    public int tear(int page, int i) {
        if (!in(page, 0, 31)) return UNKNOWN;
        if (!in(i, 0, 32)) return OUTSIDE;
        Arrays.fill(pages[page], i, 32, (byte) 0);
        return 1;
    }

    public int twin(int from, int to) {
        if (!in(from, 0, 31) || !in(to, 0, 31)) return UNKNOWN;
        pages[to] = pages[from].clone();
        return 1;
    }

    private int numberOn(int page) {
        return Short.toUnsignedInt(java.nio.ByteBuffer.wrap(pages[page]).getShort(0));
    }

    private boolean isWhole(int page) {
        return numberOn(page) != 0 && Byte.toUnsignedInt(pages[page][2]) <= 24
                && java.nio.ByteBuffer.wrap(pages[page]).getInt(28) == sum(pages[page]);
    }

    private TreeMap<Integer, List<Integer>> wholePages() {
        TreeMap<Integer, List<Integer>> byNumber = new TreeMap<>();
        for (int p = 0; p < 32; p++) if (isWhole(p)) byNumber.computeIfAbsent(numberOn(p), k -> new ArrayList<>()).add(p);
        return byNumber;
    }

    public int open() {
        return wholePages().size();
    }

    public int opened(int i, int what) {
        List<List<Integer>> all = new ArrayList<>(wholePages().values());
        if (!in(i, 0, all.size() - 1)) return UNKNOWN;
        int page = all.get(i).get(0);
        int n = pages[page][2];
        if (what == 0) return numberOn(page);
        if (what == 1) return n;
        if (what == 2) return page;
        return in(what, 10, 9 + n) ? Byte.toUnsignedInt(pages[page][what - 7]) : OUTSIDE;
    }

    public int lost(int what, int k) {
        if (!in(what, 0, 2)) return OUTSIDE;
        TreeMap<Integer, List<Integer>> whole = wholePages();
        int[] found = IntStream.range(0, 32).filter(p -> {
            if (!isWhole(p)) return what == 0 && !Arrays.equals(pages[p], new byte[32]);
            int first = whole.get(numberOn(p)).get(0);
            return first != p && what == (Arrays.equals(pages[first], pages[p]) ? 2 : 1);
        }).toArray();
        return k == -1 ? found.length : in(k, 0, found.length - 1) ? found[k] : NONE;
    }
}
