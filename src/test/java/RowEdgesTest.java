import java.util.function.ToLongFunction;

/** The edges of part 1 and of promises 2 to 18. */
public final class RowEdgesTest {
    private static final int NULL = Edges.NULL, INDEX = Edges.INDEX, SIZE = Edges.SIZE, STORE = Edges.STORE, ARITHMETIC = Edges.ARITHMETIC;
    private static final int NONE = ReservoirWall.NONE;
    private static final int MIN = Integer.MIN_VALUE, MAX = Integer.MAX_VALUE;
    private static final int SHORT = 0, INT = 1, FLOAT = 2, DOUBLE = 3, CHAR = 4, BYTE = 5, TRUTH = 6, LONG = 7;
    private static final int ROWS = 11;
    private static final long NO_NUMBER = 0x7FF8000000000000L;

    private static final Due due = new Due("RowEdgesTest");
    private static final Edges at = new Edges(due, UsedWall::build);
    private static final Edges fullOfRows = at.behind(x -> {
        for (int i = ROWS; i < 40; i++) {
            x.row(i % 8, 1);
        }
    });
    private static final Edges oneRowLeft = at.behind(x -> {
        for (int i = ROWS; i < 39; i++) {
            x.row(i % 8, 1);
        }
    });
    /** ROW 11: 64 ints, 12: 63 ints, 13: 40 ints. */
    private static final Edges longRows = at.behind(x -> {
        x.row(INT, 64);
        x.row(INT, 63);
        x.row(INT, 40);
    });

    private static long bits(double d) {
        return Double.doubleToRawLongBits(d);
    }

    private static void row() {
        at.outside("row: KIND -1", x -> x.row(-1, 1));
        at.outside("row: KIND 8", x -> x.row(8, 1));
        at.outside("row: KIND least", x -> x.row(MIN, 1));
        at.outside("row: KIND greatest", x -> x.row(MAX, 1));
        for (int kind = 0; kind <= 7; kind++) {
            int of = kind;
            ReservoirWall x = at.does("row: KIND " + kind, ROWS, y -> y.row(of, 2));
            due.is("its KIND", x.count(ROWS, 1), kind);
            due.is("its cells", x.count(ROWS, 0), 2);
            due.is("at first 0", x.getReal(ROWS, 0), 0);
            due.is("at first 0", x.get(ROWS, 1), 0);
            due.is("no third cell", x.get(ROWS, 2), ReservoirWall.FAILED - INDEX);
            due.is("one more", x.about(2), ROWS + 1);
        }
        at.outside("row: n 65", x -> x.row(INT, 65));
        at.outside("row: n greatest", x -> x.row(INT, MAX));
        ReservoirWall x = at.does("row: n 64", ROWS, y -> y.row(INT, 64));
        due.is("the last cell", x.put(ROWS, 63, 8), 1);
        due.is("no more", x.put(ROWS, 64, 8), ReservoirWall.FAILED - INDEX);
        x = at.does("row: n 0", ROWS, y -> y.row(INT, 0));
        due.is("no cells", x.count(ROWS, 0), 0);
        due.is("no cell 0", x.get(ROWS, 0), ReservoirWall.FAILED - INDEX);
        at.does("row: n 1", ROWS, y -> y.row(INT, 1));
        at.fails("row: n -1", SIZE, y -> y.row(INT, -1));
        at.fails("row: n least", SIZE, y -> y.row(LONG, MIN));
        at.outside("row: KIND ahead of SIZE", y -> y.row(8, -1));
        x = oneRowLeft.does("row: the 40th", 39, y -> y.row(INT, 1));
        due.is("40 rows", x.about(2), 40);
        fullOfRows.full("row: the 41st", y -> y.row(INT, 1));
        fullOfRows.full("row: FULL ahead of SIZE", y -> y.row(INT, -1));
        fullOfRows.outside("row: OUTSIDE KIND ahead of FULL", y -> y.row(-1, 1));
        fullOfRows.outside("row: OUTSIDE n ahead of FULL", y -> y.row(INT, 65));
        oneRowLeft.fails("row: SIZE, one left", SIZE, y -> y.row(INT, -1));
    }

    /** A call of a cell, by its ROW and place. */
    private interface OfCell {
        long on(ReservoirWall x, int row, int i);
    }

    /** put, putReal, get, getReal, raise: UNKNOWN. FAILS: NULL, INDEX. */
    private static void cellEdges(String name, OfCell call) {
        for (int row : new int[] {-2, MIN, ROWS, ROWS + 1, MAX}) {
            at.unknown(name + ": ROW " + row, x -> call.on(x, row, 0));
        }
        fullOfRows.unknown(name + ": ROW 40", x -> call.on(x, 40, 0));
        fullOfRows.does(name + ": ROW 39", Long.MIN_VALUE, x -> {
            call.on(x, 39, 0);
            return Long.MIN_VALUE;
        });
        at.unknown(name + ": UNKNOWN ahead of INDEX", x -> call.on(x, ROWS, -1));
        at.fails(name + ": ROW NONE", NULL, x -> call.on(x, NONE, 0));
        at.fails(name + ": NULL ahead of INDEX", NULL, x -> call.on(x, NONE, -1));
        for (int row = 0; row <= 7; row++) {
            int of = row;
            at.fails(name + ": cell -1 of KIND " + row, INDEX, x -> call.on(x, of, -1));
            at.fails(name + ": cell 3 of 3 of KIND " + row, INDEX, x -> call.on(x, of, 3));
        }
        at.fails(name + ": least cell", INDEX, x -> call.on(x, 0, MIN));
        at.fails(name + ": greatest cell", INDEX, x -> call.on(x, 0, MAX));
        at.fails(name + ": cell 0 of none", INDEX, x -> call.on(x, 8, 0));
    }

    private static void cells() {
        cellEdges("put", (x, row, i) -> x.put(row, i, 1234567));
        cellEdges("putReal", (x, row, i) -> x.putReal(row, i, bits(1234.5)));
        cellEdges("get", (x, row, i) -> x.get(row, i));
        cellEdges("getReal", (x, row, i) -> x.getReal(row, i));
        cellEdges("raise before", (x, row, i) -> x.raise(row, i, 1, true));
        cellEdges("raise", (x, row, i) -> x.raise(row, i, 1, false));
        for (int row = 0; row <= 7; row++) {
            int of = row;
            long first = row == TRUTH ? 1 : 5 + row;
            long second = row == CHAR ? 65534 : row == TRUTH ? 1 : -2;
            at.asks("get: the first cell of KIND " + row, first, x -> x.get(of, 0));
            at.asks("get: the second", second, x -> x.get(of, 1));
            at.asks("get: the last", 0, x -> x.get(of, 2));
            at.asks("getReal: the first cell", bits(first), x -> x.getReal(of, 0));
            at.asks("getReal: the second", bits(row == FLOAT || row == DOUBLE ? -2.75 : second), x -> x.getReal(of, 1));
            at.asks("getReal: the last", 0, x -> x.getReal(of, 2));
            ReservoirWall x = at.does("put: the last cell", 1, y -> y.put(of, 2, 1));
            due.is("it came", x.get(of, 2), 1);
            due.is("not beside it", x.get(of, 1), second);
            x = at.does("putReal: the last cell", 1, y -> y.putReal(of, 2, bits(1.0)));
            due.is("it came", x.get(of, 2), 1);
            x = at.does("put: the first cell", 1, y -> y.put(of, 0, 0));
            due.is("it came", x.get(of, 0), 0);
            due.is("not beside it", x.get(of, 1), second);
        }
    }

    /** A WHOLE comes into a cell and is told as a WHOLE. */
    private static void whole(int kind, long v, long told) {
        ReservoirWall x = at.does("put " + v + " into KIND " + kind, 1, y -> y.put(kind, 2, v));
        due.is(v + " told of KIND " + kind, x.get(kind, 2), told);
    }

    private static void wholes() {
        whole(SHORT, 32767, 32767);
        whole(SHORT, 32768, -32768);
        whole(SHORT, -32768, -32768);
        whole(SHORT, -32769, 32767);
        whole(SHORT, 65536, 0);
        whole(SHORT, Long.MAX_VALUE, -1);
        whole(SHORT, Long.MIN_VALUE, 0);
        whole(INT, 2147483647L, 2147483647L);
        whole(INT, 2147483648L, -2147483648L);
        whole(INT, -2147483648L, -2147483648L);
        whole(INT, -2147483649L, 2147483647L);
        whole(INT, 4294967296L, 0);
        whole(CHAR, 65535, 65535);
        whole(CHAR, 65536, 0);
        whole(CHAR, -1, 65535);
        whole(CHAR, 32768, 32768);
        whole(CHAR, Long.MIN_VALUE, 0);
        whole(BYTE, 127, 127);
        whole(BYTE, 128, -128);
        whole(BYTE, -128, -128);
        whole(BYTE, -129, 127);
        whole(BYTE, 256, 0);
        whole(TRUTH, 0, 0);
        whole(TRUTH, 1, 1);
        whole(TRUTH, -1, 1);
        whole(TRUTH, 256, 1);
        whole(TRUTH, 4294967296L, 1);
        whole(TRUTH, Long.MIN_VALUE, 1);
        whole(LONG, Long.MAX_VALUE, Long.MAX_VALUE);
        whole(LONG, Long.MIN_VALUE, Long.MIN_VALUE);
        // The nearest float: 24 bits; of two equally near ones the even one.
        whole(FLOAT, 16777215, 16777215);
        whole(FLOAT, 16777216, 16777216);
        whole(FLOAT, 16777217, 16777216);
        whole(FLOAT, 16777218, 16777218);
        whole(FLOAT, 16777219, 16777220);
        whole(FLOAT, -16777217, -16777216);
        whole(FLOAT, Long.MAX_VALUE, Long.MAX_VALUE);
        whole(FLOAT, Long.MIN_VALUE, Long.MIN_VALUE);
        // Just above the middle of two floats, but not as a double: the nearest float at once.
        whole(FLOAT, 9007199791611905L, 9007200328482816L);
        // The nearest double: 53 bits.
        whole(DOUBLE, 9007199254740991L, 9007199254740991L);
        whole(DOUBLE, 9007199254740992L, 9007199254740992L);
        whole(DOUBLE, 9007199254740993L, 9007199254740992L);
        whole(DOUBLE, 9007199254740995L, 9007199254740996L);
        whole(DOUBLE, Long.MAX_VALUE, Long.MAX_VALUE);
        whole(DOUBLE, Long.MIN_VALUE, Long.MIN_VALUE);
    }

    /** A REAL comes into a cell; its bits, and what is told as a WHOLE. */
    private static void real(int kind, double d, long told) {
        ReservoirWall x = at.does("put " + d + " into KIND " + kind, 1, y -> y.putReal(kind, 2, bits(d)));
        due.is(d + " told of KIND " + kind, x.get(kind, 2), told);
    }

    private static void realTold(int kind, double d, double told) {
        ReservoirWall x = at.does("put " + d + " into KIND " + kind, 1, y -> y.putReal(kind, 2, bits(d)));
        due.real(d + " told of KIND " + kind, x.getReal(kind, 2), told);
    }

    private static void madeWhole() {
        double up = Double.POSITIVE_INFINITY;
        double below = Double.NEGATIVE_INFINITY;
        // Cut towards 0, at the bounds of an int what is beyond.
        real(INT, 0.999, 0);
        real(INT, -0.999, 0);
        real(INT, -1.0, -1);
        real(INT, 2147483646.9, 2147483646L);
        real(INT, 2147483647.0, 2147483647L);
        real(INT, 2147483648.0, 2147483647L);
        real(INT, -2147483648.9, -2147483648L);
        real(INT, -2147483649.0, -2147483648L);
        real(INT, up, 2147483647L);
        real(INT, below, -2147483648L);
        // As an int first, then the lowest bits.
        real(SHORT, 32768.0, -32768);
        real(SHORT, 65536.5, 0);
        real(SHORT, 2147483648.0, -1);
        real(SHORT, 4294967297.0, -1);
        real(SHORT, -2147483649.0, 0);
        real(CHAR, -1.0, 65535);
        real(CHAR, -0.9, 0);
        real(CHAR, 65536.0, 0);
        real(CHAR, 1.0E300, 65535);
        real(CHAR, below, 0);
        real(BYTE, 127.9, 127);
        real(BYTE, 128.0, -128);
        real(BYTE, -129.0, 127);
        real(BYTE, up, -1);
        real(BYTE, below, 0);
        // As a long.
        real(LONG, 9223372036854774784.0, 9223372036854774784L);
        real(LONG, 9223372036854775808.0, Long.MAX_VALUE);
        real(LONG, -9223372036854775808.0, Long.MIN_VALUE);
        real(LONG, -9223372036854777856.0, Long.MIN_VALUE);
        real(LONG, up, Long.MAX_VALUE);
        real(LONG, below, Long.MIN_VALUE);
        real(LONG, -1.999, -1);
        // Told as WHOLES: MADE WHOLE as longs.
        for (int kind : new int[] {FLOAT, DOUBLE}) {
            real(kind, 9223372036854775808.0, Long.MAX_VALUE);
            real(kind, -9223372036854775808.0, Long.MIN_VALUE);
            real(kind, 1.0E30, Long.MAX_VALUE);
            real(kind, -1.0E30, Long.MIN_VALUE);
            real(kind, up, Long.MAX_VALUE);
            real(kind, below, Long.MIN_VALUE);
            real(kind, -0.75, 0);
            real(kind, 1.75, 1);
            real(kind, -1.75, -1);
        }
        // Whether it is unlike 0.0.
        real(TRUTH, 0.0, 0);
        real(TRUTH, -0.0, 0);
        real(TRUTH, Double.MIN_VALUE, 1);
        real(TRUTH, -Double.MIN_VALUE, 1);
        real(TRUTH, below, 1);
        // NO NUMBER, whichever bits of one were given.
        long[] noNumbers = {NO_NUMBER, 0x7FF0000000000001L, 0xFFF0000000000001L, 0x7FFFFFFFFFFFFFFFL, -1L, 0xFFF8000000000000L};
        for (long none : noNumbers) {
            for (int kind = 0; kind <= 7; kind++) {
                int of = kind;
                ReservoirWall x = at.does("put NO NUMBER into KIND " + kind, 1, y -> y.putReal(of, 0, none));
                due.is("NO NUMBER as a WHOLE of KIND " + kind, x.get(kind, 0), kind == TRUTH ? 1 : 0);
                long told = kind == FLOAT || kind == DOUBLE ? NO_NUMBER : kind == TRUTH ? bits(1.0) : 0;
                due.is("NO NUMBER as a REAL of KIND " + kind, x.getReal(kind, 0), told);
            }
        }
        // The bits beside those of NO NUMBER are endless ones.
        realTold(DOUBLE, up, up);
        realTold(DOUBLE, below, below);
    }

    private static void nearestFloats() {
        double most = 3.4028234663852886E38;
        realTold(FLOAT, most, most);
        // Half a step beyond the greatest float is endless, just below it is not.
        realTold(FLOAT, 3.4028235677973366E38, Double.POSITIVE_INFINITY);
        realTold(FLOAT, Math.nextDown(3.4028235677973366E38), most);
        realTold(FLOAT, -3.4028235677973366E38, Double.NEGATIVE_INFINITY);
        realTold(FLOAT, Math.nextUp(-3.4028235677973366E38), -most);
        // The least float, and the half of it (which goes to the even one, 0.0).
        double least = 1.401298464324817E-45;
        realTold(FLOAT, least, least);
        realTold(FLOAT, least / 2, 0.0);
        realTold(FLOAT, Math.nextUp(least / 2), least);
        realTold(FLOAT, -least / 2, -0.0);
        realTold(FLOAT, -0.0, -0.0);
        realTold(FLOAT, 1.0 + Math.scalb(1.0, -24), 1.0);
        realTold(FLOAT, Math.nextUp(1.0 + Math.scalb(1.0, -24)), 1.0 + Math.scalb(1.0, -23));
        realTold(FLOAT, 1.0 + 3 * Math.scalb(1.0, -24), 1.0 + 2 * Math.scalb(1.0, -23));
        double[] kept = {0.0, -0.0, Double.MIN_VALUE, -Double.MIN_VALUE, Double.MIN_NORMAL, Math.nextDown(Double.MIN_NORMAL),
            Double.MAX_VALUE, -Double.MAX_VALUE, 1.0, Math.nextUp(1.0), Math.nextDown(1.0), 0.1, -1.0 / 3.0};
        for (double d : kept) {
            realTold(DOUBLE, d, d);
        }
    }

    /** A cell becomes more by v: what it was, what it is, and both ways to be told. */
    private static void more(int kind, long from, long v, long to) {
        ToLongFunction<ReservoirWall> before = y -> {
            y.put(kind, 2, from);
            return y.raise(kind, 2, v, true);
        };
        ReservoirWall x = at.does("raise of KIND " + kind + " from " + from + " by " + v + ", before", from, before);
        due.is("raised from " + from + " by " + v, x.get(kind, 2), to);
        x = at.does("raise of KIND " + kind + " from " + from + " by " + v, to, y -> {
            y.put(kind, 2, from);
            return y.raise(kind, 2, v, false);
        });
        due.is("raised from " + from + " by " + v, x.get(kind, 2), to);
    }

    private static void raise() {
        more(SHORT, 32767, 1, -32768);
        more(SHORT, 32766, 1, 32767);
        more(SHORT, -32768, -1, 32767);
        more(SHORT, 5, 65536, 5);
        more(SHORT, 5, Long.MAX_VALUE, 4);
        more(INT, 2147483647L, 1, -2147483648L);
        more(INT, -2147483648L, -1, 2147483647L);
        more(INT, 3, 4294967296L, 3);
        more(CHAR, 65535, 1, 0);
        more(CHAR, 0, -1, 65535);
        more(BYTE, 127, 1, -128);
        more(BYTE, -128, -1, 127);
        more(LONG, Long.MAX_VALUE, 1, Long.MIN_VALUE);
        more(LONG, Long.MIN_VALUE, -1, Long.MAX_VALUE);
        more(LONG, Long.MIN_VALUE, Long.MIN_VALUE, 0);
        more(TRUTH, 0, 1, 1);
        more(TRUTH, 1, 1, 0);
        more(TRUTH, 1, 0, 1);
        more(TRUTH, 1, 2, 1);
        more(TRUTH, 0, -1, 1);
        more(TRUTH, 1, Long.MAX_VALUE, 0);
        more(TRUTH, 1, Long.MIN_VALUE, 1);
        more(FLOAT, 16777216, 1, 16777216);
        more(FLOAT, 16777216, 2, 16777218);
        // v is made a float first: 16777217 becomes 16777216.
        more(FLOAT, 1, 16777217, 16777216);
        more(FLOAT, 3, 16777216, 16777220);
        more(DOUBLE, 9007199254740992L, 1, 9007199254740992L);
        more(DOUBLE, 9007199254740992L, 2, 9007199254740994L);
        // v is made a double first: 9007199254740993 becomes ..992.
        more(DOUBLE, 1, 9007199254740993L, 9007199254740992L);
        for (int kind : new int[] {FLOAT, DOUBLE}) {
            ReservoirWall x = at.does("raise of NO NUMBER", 0, y -> {
                y.putReal(kind, 2, -1L);
                return y.raise(kind, 2, 7, false);
            });
            due.is("it stays", x.getReal(kind, 2), NO_NUMBER);
            x = at.does("raise of an endless one", Long.MAX_VALUE, y -> {
                y.putReal(kind, 2, bits(Double.POSITIVE_INFINITY));
                return y.raise(kind, 2, Long.MIN_VALUE, false);
            });
            due.real("it stays", x.getReal(kind, 2), Double.POSITIVE_INFINITY);
            x = at.does("raise of -0.0 by 0", 0, y -> {
                y.putReal(kind, 2, bits(-0.0));
                return y.raise(kind, 2, 0, false);
            });
            due.real("it is 0.0", x.getReal(kind, 2), 0.0);
            x = at.does("raise of -0.75 by 1", 0, y -> {
                y.putReal(kind, 2, bits(-0.75));
                return y.raise(kind, 2, 1, false);
            });
            due.real("it is 0.25", x.getReal(kind, 2), 0.25);
        }
        double[] stay = {Double.MAX_VALUE, -Double.MAX_VALUE, Double.MIN_VALUE, -Double.MIN_VALUE, Double.MIN_NORMAL, Math.nextDown(Double.MIN_NORMAL),
            Math.nextUp(Double.MIN_NORMAL), 1.0E-300, 1.0E-310, 1.0, Math.nextDown(1.0), Math.nextDown(2.0), 2.0, 1.0 / 3.0};
        for (double d : stay) {
            ReservoirWall y = at.does("raise of " + d + " by 0", (long) d, z -> {
                z.putReal(DOUBLE, 2, bits(d));
                return z.raise(DOUBLE, 2, 0, false);
            });
            due.real("it stays", y.getReal(DOUBLE, 2), d);
        }
        ReservoirWall x = at.does("raise of the greatest float", Long.MAX_VALUE, y -> {
            y.putReal(FLOAT, 2, bits(Float.MAX_VALUE));
            return y.raise(FLOAT, 2, Long.MAX_VALUE, false);
        });
        due.real("what is far less does not count", x.getReal(FLOAT, 2), Float.MAX_VALUE);
    }

    private static void join() {
        for (int row : new int[] {-2, MIN, ROWS, MAX}) {
            at.unknown("join: first ROW " + row, x -> x.join(row, 0));
            at.unknown("join: second ROW " + row, x -> x.join(0, row));
            at.unknown("join: UNKNOWN ahead of NULL", x -> x.join(NONE, row));
            at.unknown("join: UNKNOWN ahead of NULL", x -> x.join(row, NONE));
        }
        at.fails("join: first NONE", NULL, x -> x.join(NONE, 0));
        at.fails("join: second NONE", NULL, x -> x.join(0, NONE));
        at.fails("join: both NONE", NULL, x -> x.join(NONE, NONE));
        longRows.fails("join: NULL ahead of OUTSIDE", NULL, x -> x.join(NONE, 11));
        longRows.outside("join: 127 cells", x -> x.join(12, 11));
        longRows.outside("join: 66 cells", x -> x.join(12, 1));
        longRows.outside("join: 128 cells", x -> x.join(11, 11));
        longRows.outside("join: OUTSIDE ahead of STORE", x -> x.join(11, 0));
        ReservoirWall x = longRows.does("join: 64 and 0 cells", 14, y -> y.join(11, 8));
        due.is("64 cells", x.count(14, 0), 64);
        x = longRows.does("join: 0 and 64 cells", 14, y -> y.join(8, 11));
        due.is("64 cells", x.count(14, 0), 64);
        x = at.behind(y -> y.row(BYTE, 64 - 25)).does("join: 39 and 25 cells", 12, y -> y.join(11, 10));
        due.is("64 cells", x.count(12, 0), 64);
        at.behind(y -> y.row(BYTE, 65 - 25)).outside("join: 40 and 25 cells", y -> y.join(11, 10));
        x = at.does("join: 0 and 0 cells", ROWS, y -> y.join(8, 8));
        due.is("no cells", x.count(ROWS, 0), 0);
        due.is("its KIND", x.count(ROWS, 1), INT);
        x = at.does("join: a ROW with itself", ROWS, y -> y.join(1, 1));
        due.is("6 cells", x.count(ROWS, 0), 6);
        due.is("one behind the other", x.get(ROWS, 3), 6);
        due.is("one behind the other", x.get(ROWS, 4), -2);
        x.put(ROWS, 0, 77);
        due.is("the old one is another", x.get(1, 0), 6);
        at.fails("join: unlike KINDS", STORE, y -> y.join(0, 1));
        at.fails("join: unlike KINDS, no cells", STORE, y -> y.join(8, 0));
        fullOfRows.full("join: the 41st", y -> y.join(1, 1));
        fullOfRows.full("join: FULL ahead of STORE", y -> y.join(0, 1));
        fullOfRows.fails("join: NULL ahead of FULL", NULL, y -> y.join(0, NONE));
        fullOfRows.unknown("join: UNKNOWN ahead of FULL", y -> y.join(0, 40));
        Edges fullAndLong = at.behind(y -> {
            y.row(INT, 64);
            for (int i = ROWS + 1; i < 40; i++) {
                y.row(INT, 1);
            }
        });
        fullAndLong.outside("join: OUTSIDE ahead of FULL", y -> y.join(ROWS, 1));
        oneRowLeft.does("join: the 40th", 39, y -> y.join(0, 0));
        oneRowLeft.fails("join: STORE, one left", STORE, y -> y.join(0, 1));
    }

    private static void shift() {
        for (int row : new int[] {-2, MIN, ROWS, MAX}) {
            at.unknown("shift: from " + row, x -> x.shift(row, 0, 0, 0, 1));
            at.unknown("shift: to " + row, x -> x.shift(0, 0, row, 0, 1));
            at.unknown("shift: UNKNOWN ahead of NULL", x -> x.shift(NONE, 0, row, 0, 1));
            at.unknown("shift: UNKNOWN ahead of NULL", x -> x.shift(row, 0, NONE, 0, 1));
        }
        at.fails("shift: from NONE", NULL, x -> x.shift(NONE, 0, 0, 0, 1));
        at.fails("shift: to NONE", NULL, x -> x.shift(0, 0, NONE, 0, 1));
        at.fails("shift: NULL ahead of INDEX", NULL, x -> x.shift(0, -1, NONE, 0, 1));
        at.fails("shift: unlike KINDS", STORE, x -> x.shift(0, 0, 1, 0, 1));
        at.fails("shift: unlike KINDS, nothing to shift", STORE, x -> x.shift(0, 0, 1, 0, 0));
        at.fails("shift: STORE ahead of INDEX", STORE, x -> x.shift(0, -1, 1, 0, 1));
        at.fails("shift: STORE ahead of INDEX", STORE, x -> x.shift(0, 0, 1, 0, -1));
        // ROWS 1 and 11 are of ints, with 3 and 2 cells.
        Edges two = at.behind(x -> {
            x.row(INT, 2);
            x.put(ROWS, 0, 21);
            x.put(ROWS, 1, 22);
        });
        two.fails("shift: n -1", INDEX, x -> x.shift(1, 1, ROWS, 1, -1));
        two.fails("shift: n least", INDEX, x -> x.shift(1, 0, ROWS, 0, MIN));
        two.fails("shift: n greatest", INDEX, x -> x.shift(1, 0, ROWS, 0, MAX));
        two.fails("shift: i -1", INDEX, x -> x.shift(1, -1, ROWS, 0, 1));
        two.fails("shift: k -1", INDEX, x -> x.shift(1, 0, ROWS, -1, 1));
        two.fails("shift: i -1, n 0", INDEX, x -> x.shift(1, -1, ROWS, 0, 0));
        two.fails("shift: k -1, n 0", INDEX, x -> x.shift(1, 0, ROWS, -1, 0));
        two.fails("shift: i at the end, n 1", INDEX, x -> x.shift(1, 3, ROWS, 0, 1));
        two.fails("shift: k at the end, n 1", INDEX, x -> x.shift(1, 0, ROWS, 2, 1));
        two.fails("shift: one too many of the first", INDEX, x -> x.shift(1, 2, ROWS, 0, 2));
        two.fails("shift: one too many for the second", INDEX, x -> x.shift(1, 0, ROWS, 0, 3));
        two.fails("shift: one too many for the second", INDEX, x -> x.shift(1, 0, ROWS, 1, 2));
        two.fails("shift: i and n go round", INDEX, x -> x.shift(1, 2, ROWS, 0, MAX));
        two.fails("shift: i greatest", INDEX, x -> x.shift(1, MAX, ROWS, 0, 1));
        two.fails("shift: k greatest", INDEX, x -> x.shift(1, 0, ROWS, MAX, 1));
        two.asks("shift: n 0 at both ends", 1, x -> x.shift(1, 3, ROWS, 2, 0));
        two.asks("shift: n 0 at both beginnings", 1, x -> x.shift(1, 0, ROWS, 0, 0));
        two.asks("shift: n 0 of a ROW without cells", 1, x -> x.shift(8, 0, 8, 0, 0));
        two.fails("shift: n 0, i beyond the end", INDEX, x -> x.shift(1, 4, ROWS, 2, 0));
        two.fails("shift: n 0, k beyond the end", INDEX, x -> x.shift(1, 3, ROWS, 3, 0));
        two.fails("shift: n 0 beyond the end of no cells", INDEX, x -> x.shift(8, 1, 8, 0, 0));
        two.fails("shift: n 1 of no cells", INDEX, x -> x.shift(8, 0, 1, 0, 1));
        ReservoirWall x = two.does("shift: as many as there are", 1, y -> y.shift(ROWS, 0, 1, 1, 2));
        due.is("they came", x.get(1, 0) * 10000 + x.get(1, 1) * 100 + x.get(1, 2), 62122);
        x = two.does("shift: the last ones", 1, y -> y.shift(1, 1, ROWS, 0, 2));
        due.is("they came", x.get(ROWS, 0), -2);
        due.is("they came", x.get(ROWS, 1), 0);
        x = two.does("shift: a whole ROW onto itself", 1, y -> y.shift(1, 0, 1, 0, 3));
        due.is("as it was", x.get(1, 0), 6);
        x = two.does("shift: up on one ROW", 1, y -> y.shift(1, 0, 1, 1, 2));
        due.is("each what it was before", x.get(1, 0) + 10 * x.get(1, 1) + 100 * x.get(1, 2), 6 + 60 - 200);
        x = two.does("shift: down on one ROW", 1, y -> y.shift(1, 1, 1, 0, 2));
        due.is("each what it was before", x.get(1, 0) + 10 * x.get(1, 1) + 100 * x.get(1, 2), -2);
    }

    private static void like() {
        for (int row : new int[] {-2, MIN, ROWS, MAX}) {
            at.unknown("like: first ROW " + row, x -> x.like(row, 0));
            at.unknown("like: second ROW " + row, x -> x.like(0, row));
            at.unknown("like: NONE beside it", x -> x.like(NONE, row));
            at.unknown("like: NONE beside it", x -> x.like(row, NONE));
        }
        at.tells("like: NONE and NONE", 1, x -> x.like(NONE, NONE));
        at.tells("like: NONE and a ROW", 0, x -> x.like(NONE, 8));
        at.tells("like: a ROW and NONE", 0, x -> x.like(8, NONE));
        at.tells("like: a ROW and itself", 1, x -> x.like(3, 3));
        at.behind(x -> x.row(INT, 0)).tells("like: both without cells", 1, x -> x.like(8, ROWS));
        at.behind(x -> x.row(LONG, 0)).tells("like: both without cells, of unlike KINDS", 0, x -> x.like(8, ROWS));
        at.tells("like: a cell more", 0, x -> x.like(9, 10));
        for (int kind = 0; kind <= 7; kind++) {
            int of = kind;
            Edges same = at.behind(x -> {
                x.row(of, 3);
                x.shift(of, 0, ROWS, 0, 3);
            });
            same.tells("like: KIND " + kind, 1, x -> x.like(of, ROWS));
            same.behind(x -> x.put(ROWS, 2, 1)).tells("like: another last cell of KIND " + kind, 0, x -> x.like(of, ROWS));
            same.behind(x -> x.put(ROWS, 0, 0)).tells("like: another first cell of KIND " + kind, 0, x -> x.like(of, ROWS));
            if (kind == FLOAT || kind == DOUBLE) {
                same.behind(x -> x.putReal(ROWS, 2, bits(-0.0))).tells("like: 0.0 and -0.0", 0, x -> x.like(of, ROWS));
                same.behind(x -> {
                    x.putReal(ROWS, 2, 0x7FF0000000000001L);
                    x.putReal(of, 2, -1L);
                }).tells("like: any NO NUMBER and any", 1, x -> x.like(of, ROWS));
                same.behind(x -> x.putReal(ROWS, 2, NO_NUMBER)).tells("like: NO NUMBER and 0.0", 0, x -> x.like(of, ROWS));
            }
        }
    }

    private static void countFindMean() {
        for (int row : new int[] {-2, MIN, ROWS, MAX}) {
            at.unknown("count: ROW " + row, x -> x.count(row, 0));
            at.unknown("count: UNKNOWN ahead of OUTSIDE", x -> x.count(row, 3));
            at.unknown("find: ROW " + row, x -> x.find(row, 0));
            at.unknown("mean: ROW " + row, x -> x.mean(row));
        }
        for (int what : new int[] {-1, 3, MIN, MAX}) {
            at.outside("count: what " + what, x -> x.count(0, what));
            at.outside("count: OUTSIDE ahead of NULL", x -> x.count(NONE, what));
        }
        for (int what = 0; what <= 2; what++) {
            int of = what;
            at.fails("count: NONE", NULL, x -> x.count(NONE, of));
        }
        at.asks("count: cells", 3, x -> x.count(0, 0));
        at.asks("count: no cells", 0, x -> x.count(8, 0));
        at.asks("count: KIND 0", 0, x -> x.count(0, 1));
        at.asks("count: KIND 7", 7, x -> x.count(7, 1));
        at.asks("count: not 0", 2, x -> x.count(0, 2));
        at.asks("count: not 0 of none", 0, x -> x.count(8, 2));
        at.behind(x -> {
            x.putReal(3, 0, bits(0.999));
            x.putReal(3, 1, bits(-0.999));
            x.putReal(3, 2, NO_NUMBER);
        }).asks("count: not 0, as WHOLES", 0, x -> x.count(3, 2));
        at.behind(x -> x.putReal(3, 2, bits(-1.0))).asks("count: -1.0 is not 0", 3, x -> x.count(3, 2));

        at.fails("find: NONE", NULL, x -> x.find(NONE, 0));
        at.asks("find: the first cell", 0, x -> x.find(1, 6));
        at.asks("find: the last cell", 2, x -> x.find(1, 0));
        at.asks("find: none such", NONE, x -> x.find(1, 7));
        at.asks("find: without cells", NONE, x -> x.find(8, 0));
        at.behind(x -> x.put(1, 2, 6)).asks("find: the last of two", 2, x -> x.find(1, 6));
        at.asks("find: reals MADE WHOLE", 1, x -> x.find(3, -2));
        at.behind(x -> x.putReal(3, 1, bits(1e300))).asks("find: at the bound what is beyond", 1, x -> x.find(3, Long.MAX_VALUE));
        at.behind(x -> x.putReal(3, 2, NO_NUMBER)).asks("find: NO NUMBER is 0", 2, x -> x.find(3, 0));
        at.asks("find: chars from 0 on", 1, x -> x.find(4, 65534));
        at.asks("find: chars are not below 0", NONE, x -> x.find(4, -2));
        at.asks("find: beyond an int", NONE, x -> x.find(1, 6 + (1L << 32)));

        at.fails("mean: NONE", NULL, x -> x.mean(NONE));
        at.fails("mean: no cells", ARITHMETIC, x -> x.mean(8));
        at.asks("mean: cut", 1, x -> x.mean(1));
        at.behind(x -> x.put(1, 2, -9)).asks("mean: cut towards 0", -1, x -> x.mean(1));
        at.behind(x -> x.row(LONG, 1)).asks("mean: of one cell", 0, x -> x.mean(ROWS));
        Edges longs = at.behind(x -> {
            x.row(LONG, 2);
            x.put(ROWS, 0, Long.MAX_VALUE);
        });
        longs.behind(x -> x.put(ROWS, 1, 1)).asks("mean: goes round", Long.MIN_VALUE / 2, x -> x.mean(ROWS));
        longs.behind(x -> x.put(ROWS, 1, 0)).asks("mean: goes not round", Long.MAX_VALUE / 2, x -> x.mean(ROWS));
        longs.behind(x -> x.put(ROWS, 1, Long.MIN_VALUE)).asks("mean: of -1", 0, x -> x.mean(ROWS));
        at.behind(x -> {
            x.putReal(3, 0, bits(1e300));
            x.putReal(3, 1, bits(2.9));
        }).asks("mean: reals MADE WHOLE, then together", (Long.MAX_VALUE + 2) / 3, x -> x.mean(3));
    }

    private static void bed() {
        Edges fullOfBeds = at.behind(x -> {
            for (int i = 3; i < 20; i++) {
                x.bed(INT, 1, 1);
            }
        });
        Edges oneLeft = at.behind(x -> {
            for (int i = 3; i < 19; i++) {
                x.bed(INT, 1, 1);
            }
        });
        for (int kind : new int[] {-1, 0, 2, 4, 5, 7, 8, MIN, MAX}) {
            at.outside("bed: KIND " + kind, x -> x.bed(kind, 1, 1));
            at.outside("bed: KIND ahead of SIZE", x -> x.bed(kind, -1, -2));
        }
        for (int kind : new int[] {1, 3, 6}) {
            ReservoirWall x = at.does("bed: KIND " + kind, 3, y -> y.bed(kind, 1, 1));
            due.is("at first 0", x.spot(3, 0, 0), 0);
            due.is("the STRIP has no number", x.about(2), ROWS);
            due.is("one more", x.about(3), 4);
        }
        at.outside("bed: 17 STRIPS", x -> x.bed(INT, 17, 1));
        at.outside("bed: most STRIPS", x -> x.bed(INT, MAX, 1));
        at.outside("bed: 17 STRIPS, open", x -> x.bed(INT, 17, NONE));
        at.outside("bed: 65 cells", x -> x.bed(INT, 1, 65));
        at.outside("bed: 65 cells of no STRIPS", x -> x.bed(INT, 0, 65));
        at.outside("bed: most cells", x -> x.bed(INT, 1, MAX));
        at.outside("bed: 17 STRIPS ahead of SIZE", x -> x.bed(INT, 17, -2));
        at.outside("bed: 65 cells ahead of SIZE", x -> x.bed(INT, -1, 65));
        at.fails("bed: -1 STRIPS", SIZE, x -> x.bed(INT, -1, 1));
        at.fails("bed: -1 STRIPS, open", SIZE, x -> x.bed(INT, -1, NONE));
        at.fails("bed: least STRIPS", SIZE, x -> x.bed(INT, MIN, 1));
        at.fails("bed: -2 cells", SIZE, x -> x.bed(INT, 1, -2));
        at.fails("bed: -2 cells of no STRIPS", SIZE, x -> x.bed(INT, 0, -2));
        at.fails("bed: least cells", SIZE, x -> x.bed(INT, 1, MIN));
        ReservoirWall x = at.does("bed: 16 STRIPS of 64 cells", 3, y -> y.bed(TRUTH, 16, 64));
        due.is("the last STRIP, the last cell", x.setSpot(3, 15, 63, 2), 1);
        due.is("the last STRIP, the last cell", x.spot(3, 15, 63), 1);
        due.is("each is a ROW of its own", x.spot(3, 14, 63), 0);
        due.is("no further STRIP", x.spot(3, 16, 0), ReservoirWall.FAILED - INDEX);
        due.is("no further cell", x.spot(3, 15, 64), ReservoirWall.FAILED - INDEX);
        due.is("none is bare", x.bare(3, -1), 0);
        x = at.does("bed: no STRIPS", 3, y -> y.bed(INT, 0, 5));
        due.is("no STRIP", x.spot(3, 0, 0), ReservoirWall.FAILED - INDEX);
        due.is("none is bare", x.bare(3, -1), 0);
        x = at.does("bed: no cells", 3, y -> y.bed(INT, 2, 0));
        due.is("no cell", x.spot(3, 1, 0), ReservoirWall.FAILED - INDEX);
        due.is("none is bare", x.bare(3, -1), 0);
        x = at.does("bed: open", 3, y -> y.bed(INT, 16, NONE));
        due.is("no STRIP is there", x.spot(3, 15, 0), ReservoirWall.FAILED - NULL);
        due.is("all are bare", x.bare(3, -1), 16);
        x = oneLeft.does("bed: the 20th", 19, y -> y.bed(INT, 1, 1));
        due.is("20 BEDS", x.about(3), 20);
        fullOfBeds.full("bed: the 21st", y -> y.bed(INT, 1, 1));
        fullOfBeds.full("bed: FULL ahead of SIZE", y -> y.bed(INT, -1, 1));
        fullOfBeds.outside("bed: OUTSIDE ahead of FULL", y -> y.bed(INT, 17, 1));
        fullOfBeds.outside("bed: KIND ahead of FULL", y -> y.bed(0, 1, 1));
    }

    private static void lay() {
        for (int bed : new int[] {-1, -2, MIN, 3, MAX}) {
            at.unknown("lay: BED " + bed, x -> x.lay(bed, 0, 1));
            at.unknown("lay: UNKNOWN BED ahead of INDEX", x -> x.lay(bed, -1, 1));
            at.unknown("spot: BED " + bed, x -> x.spot(bed, 0, 0));
            at.unknown("spot: UNKNOWN ahead of INDEX", x -> x.spot(bed, -1, -1));
            at.unknown("setSpot: BED " + bed, x -> x.setSpot(bed, 0, 0, 1));
            at.unknown("bare: BED " + bed, x -> x.bare(bed, 0));
            at.unknown("bare: BED " + bed, x -> x.bare(bed, -1));
            at.unknown("bare: BED " + bed, x -> x.bare(bed, -2));
        }
        for (int row : new int[] {-2, MIN, ROWS, MAX}) {
            at.unknown("lay: ROW " + row, x -> x.lay(0, 0, row));
            at.unknown("lay: UNKNOWN ROW ahead of INDEX", x -> x.lay(0, 2, row));
        }
        for (int i : new int[] {-1, 2, MIN, MAX}) {
            at.fails("lay: STRIP " + i, INDEX, x -> x.lay(0, i, 1));
            at.fails("lay: NONE as STRIP " + i, INDEX, x -> x.lay(0, i, NONE));
            at.fails("lay: INDEX ahead of STORE", INDEX, x -> x.lay(0, i, 3));
            at.fails("spot: STRIP " + i, INDEX, x -> x.spot(0, i, 0));
            at.fails("setSpot: STRIP " + i, INDEX, x -> x.setSpot(0, i, 0, 1));
        }
        for (int row = 0; row <= 7; row++) {
            int of = row;
            for (int bed = 0; bed <= 2; bed++) {
                int on = bed;
                if (row == (bed == 0 ? 1 : bed == 1 ? 3 : 6)) {
                    ReservoirWall x = at.does("lay: KIND " + row, 1, y -> y.lay(on, 0, of));
                    x.setSpot(bed, 0, 2, 1);
                    due.is("it is the ROW itself", x.get(row, 2), 1);
                } else {
                    at.fails("lay: KIND " + row + " on BED " + bed, STORE, x -> x.lay(on, 0, of));
                }
            }
        }
        ReservoirWall x = at.does("lay: NONE", 1, y -> y.lay(0, 0, NONE));
        due.is("bare now", x.bare(0, 0), 0);
        due.is("bare now", x.spot(0, 0, 0), ReservoirWall.FAILED - NULL);
        at.does("lay: NONE where none is", 1, y -> y.lay(1, 0, NONE));
        x = at.does("lay: one ROW as two STRIPS", 1, y -> y.lay(0, 0, 1));
        x.setSpot(0, 0, 0, 88);
        due.is("both are the ROW", x.spot(0, 1, 0), 88);
        due.is("a longer ROW may lie beside", x.spot(0, 0, 2), 0);
    }

    private static void spots() {
        for (int j : new int[] {-1, 2, MIN, MAX}) {
            at.fails("spot: cell " + j, INDEX, x -> x.spot(0, 0, j));
            at.fails("setSpot: cell " + j, INDEX, x -> x.setSpot(0, 0, j, 1));
            at.fails("spot: NULL ahead of INDEX of the cell", NULL, x -> x.spot(1, 0, j));
            at.fails("setSpot: NULL ahead of INDEX of the cell", NULL, x -> x.setSpot(1, 1, j, 1));
            at.fails("spot: INDEX of the STRIP ahead of NULL", INDEX, x -> x.spot(1, 3, j));
        }
        at.fails("spot: a bare STRIP", NULL, x -> x.spot(1, 0, 0));
        at.fails("setSpot: a bare STRIP", NULL, x -> x.setSpot(1, 1, 0, 1));
        at.asks("spot: the first cell", 0, x -> x.spot(0, 0, 0));
        at.asks("spot: the last cell", 9, x -> x.spot(0, 0, 1));
        at.asks("spot: of a ROW that is laid", 6, x -> x.spot(0, 1, 0));
        at.asks("spot: a real as a WHOLE", -2, x -> x.spot(1, 2, 1));
        ReservoirWall x = at.does("setSpot: its lowest bits", 1, y -> y.setSpot(0, 1, 2, (1L << 32) + 5));
        due.is("into the ROW", x.get(1, 2), 5);
        x = at.does("setSpot: the nearest double", 1, y -> y.setSpot(1, 2, 2, 9007199254740993L));
        due.real("into the ROW", x.getReal(3, 2), 9007199254740992.0);
        x = at.does("setSpot: whether it is not 0", 1, y -> y.setSpot(2, 0, 0, Long.MIN_VALUE));
        due.is("into the STRIP", x.spot(2, 0, 0), 1);

        at.tells("bare: how many", 2, y -> y.bare(1, -1));
        at.tells("bare: the first", 0, y -> y.bare(1, 0));
        at.tells("bare: the last", 1, y -> y.bare(1, 1));
        at.tells("bare: one beyond", NONE, y -> y.bare(1, 2));
        at.tells("bare: far beyond", NONE, y -> y.bare(1, MAX));
        at.tells("bare: k below -1", NONE, y -> y.bare(1, -2));
        at.tells("bare: k least", NONE, y -> y.bare(1, MIN));
        at.tells("bare: none is", 0, y -> y.bare(0, -1));
        at.tells("bare: none is", NONE, y -> y.bare(0, 0));
    }

    public static void main(String[] args) {
        row();
        cells();
        wholes();
        madeWhole();
        nearestFloats();
        raise();
        join();
        shift();
        like();
        countFindMean();
        bed();
        lay();
        spots();
        due.end();
    }
}
