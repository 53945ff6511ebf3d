/** Promises 2 to 18. */
public final class RowsTest {
    private static final int NULL = -2000000011, INDEX = -2000000012, SIZE = -2000000013, STORE = -2000000015, ARITHMETIC = -2000000016;
    private static final int NONE = ReservoirWall.NONE, UNKNOWN = ReservoirWall.UNKNOWN, OUTSIDE = ReservoirWall.OUTSIDE, FULL = ReservoirWall.FULL;
    private static final int SHORT = 0, INT = 1, FLOAT = 2, DOUBLE = 3, CHAR = 4, BYTE = 5, TRUTH = 6, LONG = 7;
    private static final long NO_NUMBER = 0x7FF8000000000000L, OTHER_NO_NUMBER = 0xFFF0000000000777L;

    private static final Due due = new Due("RowsTest");

    private static long bits(double d) {
        return Double.doubleToRawLongBits(d);
    }

    /** One row of four cells of each kind, numbered as the kinds. */
    private static ReservoirWall withRows() {
        ReservoirWall x = new ReservoirWall();
        for (int kind = 0; kind < 8; kind++) {
            x.row(kind, 4);
        }
        return x;
    }

    private static void row() {
        ReservoirWall x = new ReservoirWall();
        due.is("row kind -1", x.row(-1, 1), OUTSIDE);
        due.is("row kind 8", x.row(8, 1), OUTSIDE);
        due.is("row of 65", x.row(1, 65), OUTSIDE);
        due.is("row kind ahead of size", x.row(8, -1), OUTSIDE);
        due.is("refused is not raised", x.raised(0), 0);
        due.is("row of -1", x.row(1, -1), SIZE);
        due.is("raised", x.raised(0), 3);
        due.is("row of 0", x.row(1, 0), 0);
        due.is("raised no more", x.raised(0), 0);
        due.is("row of 64", x.row(7, 64), 1);
        for (int i = 2; i < 40; i++) {
            due.is("row", x.row(i % 8, 1), i);
        }
        due.is("rows", x.about(2), 40);
        due.is("row 41", x.row(1, 1), FULL);
        due.is("full ahead of size", x.row(1, -1), FULL);
        due.is("outside ahead of full", x.row(1, 65), OUTSIDE);
    }

    private static void put() {
        ReservoirWall x = withRows();
        long v = 0x123456789ABCDEF1L;
        long[] told = {(short) 0xDEF1, 0x9ABCDEF1, (long) (float) v, (long) (double) v, 0xDEF1, (byte) 0xF1, 1, v};
        for (int kind = 0; kind < 8; kind++) {
            due.is("put", x.put(kind, 3, v), 1);
            due.is("get of kind " + kind, x.get(kind, 3), told[kind]);
            due.is("get of another cell", x.get(kind, 2), 0);
        }
        due.is("put truth 2", x.put(TRUTH, 0, 2), 1);
        due.is("get truth", x.get(TRUTH, 0), 1);
        due.is("put truth 0", x.put(TRUTH, 0, 0), 1);
        due.is("get truth", x.get(TRUTH, 0), 0);
        x.put(FLOAT, 0, 9007199791611905L);
        due.real("a long goes to the nearest float at once", x.getReal(FLOAT, 0), 9007200328482816.0);
        due.is("put unknown", x.put(8, 0, 0), UNKNOWN);
        due.is("put unknown", x.put(-2, 0, 0), UNKNOWN);
        due.is("put null", x.put(NONE, 9, 0), NULL);
        due.is("raised", x.raised(0), 1);
        due.is("put index", x.put(0, 4, 0), INDEX);
        due.is("put index", x.put(0, -1, 0), INDEX);
        due.is("raised", x.raised(0), 2);
        due.is("refused", x.put(99, 0, 0), UNKNOWN);
        due.is("raised stays", x.raised(0), 2);
        due.is("raised word", x.raised(1), 0);
    }

    private static void putReal() {
        ReservoirWall x = withRows();
        double[] given = {-2.9, 1e300, -1e300, 70000.7, 0.3, -0.0, Double.POSITIVE_INFINITY, 1e-310};
        for (double d : given) {
            for (int kind = 0; kind < 8; kind++) {
                due.is("putReal", x.putReal(kind, 1, bits(d)), 1);
            }
            due.is("short of " + d, x.get(SHORT, 1), (short) (int) d);
            due.is("int of " + d, x.get(INT, 1), (int) d);
            due.real("float of " + d, x.getReal(FLOAT, 1), (float) d);
            due.real("double of " + d, x.getReal(DOUBLE, 1), d);
            due.is("char of " + d, x.get(CHAR, 1), (char) (int) d);
            due.is("byte of " + d, x.get(BYTE, 1), (byte) (int) d);
            due.is("truth of " + d, x.get(TRUTH, 1), d != 0.0 ? 1 : 0);
            due.is("long of " + d, x.get(LONG, 1), (long) d);
        }
        for (int kind = 0; kind < 8; kind++) {
            x.put(kind, 2, 1);
            due.is("putReal no number", x.putReal(kind, 2, OTHER_NO_NUMBER), 1);
            due.is("no number is whole", x.get(kind, 2), kind == TRUTH ? 1 : 0);
        }
        due.is("one bits of no number", x.getReal(DOUBLE, 2), NO_NUMBER);
        due.is("one bits of no number", x.getReal(FLOAT, 2), NO_NUMBER);
        due.is("putReal unknown", x.putReal(8, 0, 0), UNKNOWN);
        due.is("putReal null", x.putReal(NONE, 0, 0), NULL);
        due.is("putReal index", x.putReal(DOUBLE, 4, 0), INDEX);
    }

    private static void getAndGetReal() {
        ReservoirWall x = withRows();
        x.put(LONG, 0, 9007199254740993L);
        due.real("getReal is the nearest double", x.getReal(LONG, 0), 9007199254740992.0);
        x.put(CHAR, 0, -1);
        due.is("chars from 0 on", x.get(CHAR, 0), 65535);
        due.real("chars from 0 on", x.getReal(CHAR, 0), 65535.0);
        x.put(TRUTH, 0, 5);
        due.real("truths", x.getReal(TRUTH, 0), 1.0);
        due.real("truths", x.getReal(TRUTH, 1), 0.0);
        x.putReal(DOUBLE, 0, bits(1e19));
        due.is("beyond the bound", x.get(DOUBLE, 0), Long.MAX_VALUE);
        x.putReal(FLOAT, 0, bits(-1e30));
        due.is("beyond the bound", x.get(FLOAT, 0), Long.MIN_VALUE);
        x.put(LONG, 1, UNKNOWN);
        due.is("what is refused may be a whole", x.get(LONG, 1), UNKNOWN);
        due.is("get unknown", x.get(40, 0), UNKNOWN);
        due.is("get null", x.get(NONE, -5), NULL);
        due.is("get index", x.get(0, Integer.MIN_VALUE), INDEX);
        due.is("getReal unknown", x.getReal(40, 0), UNKNOWN);
        due.is("getReal null", x.getReal(NONE, -5), NULL);
        due.is("getReal index", x.getReal(0, Integer.MAX_VALUE), INDEX);
    }

    private static void raise() {
        ReservoirWall x = withRows();
        due.is("short goes round", x.raise(SHORT, 0, 32768, false), -32768);
        due.is("before", x.raise(SHORT, 0, -1, true), -32768);
        due.is("is", x.get(SHORT, 0), 32767);
        due.is("int", x.raise(INT, 0, 4294967297L, false), 1);
        due.is("char", x.raise(CHAR, 0, -1, false), 65535);
        due.is("byte", x.raise(BYTE, 0, 200, false), -56);
        x.put(LONG, 0, Long.MAX_VALUE);
        due.is("long", x.raise(LONG, 0, 1, false), Long.MIN_VALUE);
        x.put(FLOAT, 0, 16777216);
        due.is("in floats", x.raise(FLOAT, 0, 1, false), 16777216);
        x.put(DOUBLE, 0, 16777216);
        due.is("in doubles", x.raise(DOUBLE, 0, 1, false), 16777217);
        due.is("odd turns round", x.raise(TRUTH, 0, -3, false), 1);
        due.is("even does not", x.raise(TRUTH, 0, 2, false), 1);
        due.is("odd turns back", x.raise(TRUTH, 0, 1, true), 1);
        due.is("turned", x.get(TRUTH, 0), 0);
        x.putReal(DOUBLE, 1, NO_NUMBER);
        due.is("no number stays", x.raise(DOUBLE, 1, 5, false), 0);
        due.is("no number stays", x.getReal(DOUBLE, 1), NO_NUMBER);
        x.putReal(DOUBLE, 1, bits(-0.0));
        x.raise(DOUBLE, 1, 0, false);
        due.real("-0.0 and 0", x.getReal(DOUBLE, 1), 0.0);
        x.putReal(FLOAT, 1, bits(Double.NEGATIVE_INFINITY));
        x.raise(FLOAT, 1, Long.MAX_VALUE, false);
        due.real("endless stays", x.getReal(FLOAT, 1), Double.NEGATIVE_INFINITY);
        due.is("raise unknown", x.raise(8, 0, 1, true), UNKNOWN);
        due.is("raise null", x.raise(NONE, 0, 1, true), NULL);
        due.is("raise index", x.raise(0, 4, 1, true), INDEX);
    }

    private static void join() {
        ReservoirWall x = new ReservoirWall();
        x.row(INT, 2);
        x.row(INT, 1);
        x.row(INT, 62);
        x.row(INT, 63);
        x.row(DOUBLE, 2);
        x.put(0, 0, 7);
        x.put(0, 1, 8);
        x.put(1, 0, 9);
        due.is("join", x.join(0, 1), 5);
        due.is("cells", x.count(5, 0), 3);
        due.is("first", x.get(5, 0), 7);
        due.is("second", x.get(5, 1), 8);
        due.is("third", x.get(5, 2), 9);
        x.put(0, 0, 1);
        due.is("a row of its own", x.get(5, 0), 7);
        due.is("join with itself", x.join(1, 1), 6);
        due.is("64 cells", x.join(0, 2), 7);
        due.is("65 cells", x.join(0, 3), OUTSIDE);
        due.is("outside ahead of store", x.join(3, 4), OUTSIDE);
        due.is("unlike kinds", x.join(0, 4), STORE);
        due.is("null", x.join(NONE, 0), NULL);
        due.is("null", x.join(0, NONE), NULL);
        due.is("unknown ahead of null", x.join(NONE, 50), UNKNOWN);
        due.is("unknown", x.join(-7, 0), UNKNOWN);
        for (int i = 8; i < 40; i++) {
            x.row(INT, 1);
        }
        due.is("full", x.join(0, 1), FULL);
        due.is("full ahead of store", x.join(0, 4), FULL);
        due.is("null ahead of full", x.join(0, NONE), NULL);
        due.is("outside ahead of full", x.join(3, 3), OUTSIDE);
    }

    private static void shift() {
        ReservoirWall x = new ReservoirWall();
        x.row(INT, 4);
        x.row(INT, 2);
        x.row(SHORT, 4);
        for (int i = 0; i < 4; i++) {
            x.put(0, i, 10 + i);
        }
        due.is("shift on one row, up", x.shift(0, 0, 0, 1, 3), 1);
        due.is("each what it was before", x.get(0, 1) * 10000 + x.get(0, 2) * 100 + x.get(0, 3), 101112);
        due.is("shift on one row, down", x.shift(0, 1, 0, 0, 3), 1);
        due.is("each what it was before", x.get(0, 0) * 10000 + x.get(0, 1) * 100 + x.get(0, 2), 101112);
        due.is("shift to another", x.shift(0, 2, 1, 0, 2), 1);
        due.is("came", x.get(1, 0) * 100 + x.get(1, 1), 1212);
        due.is("nothing at the end", x.shift(0, 4, 1, 2, 0), 1);
        due.is("nothing beyond the end", x.shift(0, 5, 1, 2, 0), INDEX);
        due.is("nothing beyond the end", x.shift(0, 4, 1, 3, 0), INDEX);
        due.is("n below 0", x.shift(0, 1, 1, 1, -1), INDEX);
        due.is("i below 0", x.shift(0, -1, 1, 0, 1), INDEX);
        due.is("k below 0", x.shift(0, 0, 1, -1, 1), INDEX);
        due.is("too many", x.shift(0, 0, 1, 0, 3), INDEX);
        due.is("far too many", x.shift(0, 1, 1, 1, Integer.MAX_VALUE), INDEX);
        due.is("store ahead of index", x.shift(0, 9, 2, 0, 1), STORE);
        due.is("null ahead of store", x.shift(0, 9, NONE, 0, 1), NULL);
        due.is("null", x.shift(NONE, 0, 0, 0, 0), NULL);
        due.is("unknown", x.shift(NONE, 0, 3, 0, 0), UNKNOWN);
        due.is("unknown", x.shift(3, 0, NONE, 0, 0), UNKNOWN);
    }

    private static void like() {
        ReservoirWall x = new ReservoirWall();
        x.row(DOUBLE, 2);
        x.row(DOUBLE, 2);
        x.row(DOUBLE, 3);
        x.row(FLOAT, 2);
        due.is("like", x.like(0, 1), 1);
        due.is("unlike size", x.like(0, 2), 0);
        due.is("unlike kind", x.like(0, 3), 0);
        x.putReal(0, 1, NO_NUMBER);
        due.is("unlike cell", x.like(0, 1), 0);
        x.putReal(1, 1, OTHER_NO_NUMBER);
        due.is("any no number is like any", x.like(0, 1), 1);
        x.putReal(0, 1, bits(-0.0));
        x.putReal(1, 1, bits(0.0));
        due.is("unlike bits", x.like(0, 1), 0);
        due.is("none and none", x.like(NONE, NONE), 1);
        due.is("none and a row", x.like(NONE, 0), 0);
        due.is("a row and none", x.like(0, NONE), 0);
        due.is("unknown", x.like(4, NONE), UNKNOWN);
        due.is("unknown", x.like(NONE, -2), UNKNOWN);
        x.get(NONE, 0);
        x.like(0, 1);
        due.is("like() can't fail: raised stays", x.raised(0), 1);
    }

    private static void countFindMean() {
        ReservoirWall x = new ReservoirWall();
        x.row(DOUBLE, 4);
        x.row(INT, 0);
        x.row(LONG, 3);
        x.putReal(0, 0, bits(0.9));
        x.putReal(0, 1, bits(-3.7));
        x.putReal(0, 2, NO_NUMBER);
        due.is("cells", x.count(0, 0), 4);
        due.is("kind", x.count(0, 1), 3);
        due.is("not 0 as wholes", x.count(0, 2), 1);
        due.is("count of none", x.count(1, 2), 0);
        due.is("count outside", x.count(0, 3), OUTSIDE);
        due.is("count outside ahead of null", x.count(NONE, -1), OUTSIDE);
        due.is("count unknown ahead of outside", x.count(9, -1), UNKNOWN);
        due.is("count null", x.count(NONE, 0), NULL);
        due.is("find the last", x.find(0, 0), 3);
        due.is("find", x.find(0, -3), 1);
        due.is("find nothing", x.find(0, 5), NONE);
        due.is("find in none", x.find(1, 0), NONE);
        due.is("find unknown", x.find(9, 0), UNKNOWN);
        due.is("find null", x.find(NONE, 0), NULL);
        due.is("mean is cut", x.mean(0), 0);
        x.putReal(0, 3, bits(-6.0));
        due.is("mean is cut towards 0", x.mean(0), -2);
        x.put(2, 0, Long.MAX_VALUE);
        x.put(2, 1, Long.MAX_VALUE);
        x.put(2, 2, 8);
        due.is("mean goes round", x.mean(2), 2);
        due.is("mean of none", x.mean(1), ARITHMETIC);
        due.is("mean unknown", x.mean(3), UNKNOWN);
        due.is("mean null", x.mean(NONE), NULL);
    }

    private static void beds() {
        ReservoirWall x = new ReservoirWall();
        for (int kind = -1; kind <= 8; kind++) {
            if (kind != 1 && kind != 3 && kind != 6) {
                due.is("bed kind " + kind, x.bed(kind, 1, 1), OUTSIDE);
            }
        }
        due.is("17 strips", x.bed(1, 17, 1), OUTSIDE);
        due.is("65 cells", x.bed(1, 1, 65), OUTSIDE);
        due.is("outside ahead of size", x.bed(1, -1, 65), OUTSIDE);
        due.is("strips below 0", x.bed(1, -1, 1), SIZE);
        due.is("cells below -1", x.bed(1, 1, -2), SIZE);
        due.is("no strips, cells below -1", x.bed(1, 0, -2), SIZE);
        due.is("bed", x.bed(1, 3, 2), 0);
        due.is("open bed", x.bed(3, 16, -1), 1);
        due.is("bed of truths", x.bed(6, 1, 64), 2);
        due.is("strips have no number", x.about(2), 0);
        due.is("none is bare", x.bare(0, -1), 0);
        due.is("all are bare", x.bare(1, -1), 16);
        due.is("setSpot", x.setSpot(0, 2, 1, 4294967301L), 1);
        due.is("spot", x.spot(0, 2, 1), 5);
        due.is("a row of its own", x.spot(0, 1, 1), 0);
        due.is("truth", x.setSpot(2, 0, 63, 9), 1);
        due.is("truth", x.spot(2, 0, 63), 1);

        x.row(INT, 5);
        x.row(DOUBLE, 1);
        x.row(SHORT, 1);
        due.is("lay", x.lay(0, 1, 0), 1);
        x.put(0, 4, 77);
        due.is("laid is the row itself", x.spot(0, 1, 4), 77);
        x.setSpot(0, 1, 0, 66);
        due.is("laid is the row itself", x.get(0, 0), 66);
        due.is("lay none", x.lay(0, 0, NONE), 1);
        due.is("lay unlike", x.lay(0, 0, 1), STORE);
        due.is("lay unlike", x.lay(0, 0, 2), STORE);
        due.is("index ahead of store", x.lay(0, 3, 1), INDEX);
        due.is("index", x.lay(0, -1, 0), INDEX);
        due.is("unknown row", x.lay(0, 9, 3), UNKNOWN);
        due.is("unknown bed", x.lay(3, 0, 0), UNKNOWN);
        due.is("no bed is unknown", x.lay(NONE, 0, 0), UNKNOWN);
        due.is("lay a double", x.lay(1, 2, 1), 1);

        due.is("bare", x.bare(0, -1), 1);
        due.is("bare 0", x.bare(0, 0), 0);
        due.is("bare 1", x.bare(0, 1), NONE);
        due.is("bare 2 of the open bed", x.bare(1, 2), 3);
        due.is("bare -2", x.bare(1, -2), NONE);
        due.is("bare unknown", x.bare(3, 0), UNKNOWN);
        due.is("bare unknown", x.bare(NONE, 0), UNKNOWN);

        due.is("spot of no strip", x.spot(0, 3, 0), INDEX);
        due.is("spot of a bare one", x.spot(0, 0, 99), NULL);
        due.is("spot of no cell", x.spot(0, 2, 2), INDEX);
        due.is("spot unknown", x.spot(NONE, 0, 0), UNKNOWN);
        due.is("setSpot of no strip", x.setSpot(0, -1, 0, 1), INDEX);
        due.is("setSpot of a bare one", x.setSpot(0, 0, -1, 1), NULL);
        due.is("setSpot of no cell", x.setSpot(0, 2, -1, 1), INDEX);
        due.is("setSpot unknown", x.setSpot(3, 0, 0, 1), UNKNOWN);
        for (int i = 3; i < 20; i++) {
            due.is("bed", x.bed(1, 0, 0), i);
        }
        due.is("beds", x.about(3), 20);
        due.is("full", x.bed(1, 1, 1), FULL);
        due.is("full ahead of size", x.bed(1, -1, 1), FULL);
    }

    public static void main(String[] args) {
        row();
        put();
        putReal();
        getAndGetReal();
        raise();
        join();
        shift();
        like();
        countFindMean();
        beds();
        due.end();
    }
}
