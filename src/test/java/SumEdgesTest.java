/** The edges of promises 40 to 42. */
public final class SumEdgesTest {
    private static final int NULL = Edges.NULL, INDEX = Edges.INDEX, ARITHMETIC = Edges.ARITHMETIC;
    private static final int NONE = ReservoirWall.NONE;
    private static final int MIN = Integer.MIN_VALUE, MAX = Integer.MAX_VALUE;
    private static final int FLOAT = 2, DOUBLE = 3, ROWS = 11;
    private static final long NO_NUMBER = 0x7FF8000000000000L;
    private static final double UP = Double.POSITIVE_INFINITY, BELOW = Double.NEGATIVE_INFINITY, NAN = Double.NaN;

    private static final Due due = new Due("SumEdgesTest");
    private static final Edges at = new Edges(due, UsedWall::build);

    private static long bits(double d) {
        return Double.doubleToLongBits(d);
    }

    /** ROW 11, of these cells. */
    private static Edges with(int kind, double... cells) {
        return at.behind(x -> {
            x.row(kind, cells.length);
            for (int i = 0; i < cells.length; i++) {
                x.putReal(ROWS, i, bits(cells[i]));
            }
        });
    }

    /** What flow() tells for 0 .. 6. */
    private static void flows(String when, double[] cells, double... want) {
        for (int kind : new int[] {FLOAT, DOUBLE}) {
            Edges row = with(kind, cells);
            for (int what = 0; what <= 6; what++) {
                int of = what;
                row.asks("flow of " + when + ", what " + what, bits(want[what]), x -> x.flow(ROWS, of));
            }
        }
    }

    private static double[] of(double... cells) {
        return cells;
    }

    private static void flow() {
        for (int row : new int[] {-2, MIN, ROWS, MAX}) {
            at.unknown("flow: ROW " + row, x -> x.flow(row, 0));
            at.unknown("flow: UNKNOWN ahead of OUTSIDE", x -> x.flow(row, 7));
        }
        for (int what : new int[] {-1, 7, MIN, MAX}) {
            at.outside("flow: what " + what, x -> x.flow(DOUBLE, what));
            at.outside("flow: OUTSIDE ahead of STATE", x -> x.flow(0, what));
            at.outside("flow: OUTSIDE ahead of NULL", x -> x.flow(NONE, what));
        }
        for (int what = 0; what <= 6; what++) {
            int of = what;
            at.fails("flow: NONE", NULL, x -> x.flow(NONE, of));
            for (int kind : new int[] {0, 1, 4, 5, 6, 7, 8}) {
                at.state("flow: KIND of ROW " + kind, x -> x.flow(kind, of));
            }
        }
        flows("no cells", of(), NAN, NAN, NAN, NAN, NAN, NAN, NAN);
        flows("NO NUMBER alone", of(NAN), NAN, NAN, NAN, NAN, NAN, NAN, NAN);
        flows("one number", of(-2.5), -2.5, -2.5, -2.5, -2.5, -2.5, -2.5, -2.5);
        flows("a number and NO NUMBER", of(NAN, 4.0, NAN), 4.0, 4.0, 4.0, 4.0, NAN, NAN, NAN);
        flows("NO NUMBER behind", of(1.0, 4.0, NAN), 1.0, 4.0, 2.5, 1.0, NAN, NAN, NAN);
        flows("two: the lower one is in the middle", of(8.0, 2.0), 2.0, 8.0, 5.0, 2.0, 2.0, 8.0, 5.0);
        flows("three", of(8.0, 2.0, 5.0), 2.0, 8.0, 5.0, 5.0, 2.0, 8.0, 5.0);
        flows("four", of(8.0, 2.0, 5.0, 1.0), 1.0, 8.0, 4.0, 2.0, 1.0, 8.0, 4.0);
        flows("below 0", of(-1.0, -3.0, -2.5), -3.0, -1.0, -6.5 / 3.0, -2.5, -3.0, -1.0, -6.5 / 3.0);
        flows("on both sides of 0", of(1.0, -4.0, -0.0, 8.0, -1.0, 0.0), -4.0, 8.0, 4.0 / 6.0, -0.0, -4.0, 8.0, 4.0 / 6.0);
        flows("like ones", of(3.0, 3.0, 3.0, 1.0), 1.0, 3.0, 2.5, 3.0, 1.0, 3.0, 2.5);
        flows("0.0 ahead of -0.0", of(0.0, -0.0), 0.0, 0.0, 0.0, -0.0, 0.0, 0.0, 0.0);
        flows("-0.0 ahead of 0.0", of(-0.0, 0.0), -0.0, -0.0, 0.0, -0.0, -0.0, -0.0, 0.0);
        flows("-0.0 alone: the mean is from 0.0 on", of(-0.0, -0.0), -0.0, -0.0, 0.0, -0.0, -0.0, -0.0, 0.0);
        flows("0.0, -0.0, 0.0: the middle", of(0.0, 0.0, -0.0), 0.0, 0.0, 0.0, 0.0, 0.0, 0.0, 0.0);
        flows("-0.0, 0.0, -0.0: the middle", of(-0.0, 0.0, -0.0), -0.0, -0.0, 0.0, -0.0, -0.0, -0.0, 0.0);
        flows("endless ones", of(UP, 1.0, UP), 1.0, UP, UP, UP, 1.0, UP, UP);
        flows("endless below", of(BELOW, 1.0), BELOW, 1.0, BELOW, BELOW, BELOW, 1.0, BELOW);
        flows("endless against each other", of(UP, BELOW, 1.0), BELOW, UP, NAN, 1.0, BELOW, UP, NAN);
        flows("endless against each other, the other first", of(1.0, BELOW, UP), BELOW, UP, NAN, 1.0, BELOW, UP, NAN);
        flows("endless ones and NO NUMBER", of(UP, NAN, BELOW), BELOW, UP, NAN, BELOW, NAN, NAN, NAN);

        Edges great = with(DOUBLE, Double.MAX_VALUE, Double.MAX_VALUE, -Double.MAX_VALUE);
        great.asks("flow: a sum beyond is endless", bits(UP), x -> x.flow(ROWS, 2));
        great.asks("flow: a sum beyond is endless", bits(UP), x -> x.flow(ROWS, 6));
        double most = Double.MAX_VALUE;
        with(DOUBLE, most).asks("flow: the greatest alone", bits(most), x -> x.flow(ROWS, 2));
        with(DOUBLE, -most).asks("flow: the least alone", bits(-most), x -> x.flow(ROWS, 6));
        with(DOUBLE, most, BELOW).asks("flow: the greatest and endless below", bits(BELOW), x -> x.flow(ROWS, 2));
        with(DOUBLE, -most, UP).asks("flow: the least and endless", bits(UP), x -> x.flow(ROWS, 6));
        with(DOUBLE, UP, -most).asks("flow: endless and the least", bits(UP), x -> x.flow(ROWS, 2));
        with(DOUBLE, BELOW, most).asks("flow: endless below and the greatest", bits(BELOW), x -> x.flow(ROWS, 6));
        with(DOUBLE, most, most, BELOW).asks("flow: a sum that is endless and endless below", NO_NUMBER, x -> x.flow(ROWS, 2));
        with(DOUBLE, -most, -most, UP).asks("flow: a sum that is endless below and endless", NO_NUMBER, x -> x.flow(ROWS, 6));
        Edges order = with(DOUBLE, 1.0E16, 1.0, -1.0E16);
        order.asks("flow: added in order", bits(0.0), x -> x.flow(ROWS, 2));
        with(DOUBLE, 1.0E16, -1.0E16, 1.5).asks("flow: added in order", bits(0.5), x -> x.flow(ROWS, 2));
        // Floats are added as doubles.
        with(FLOAT, 16777216.0, 1.0).asks("flow: floats added as REALS", bits(8388608.5), x -> x.flow(ROWS, 2));
        with(DOUBLE, Double.MIN_VALUE, -Double.MIN_VALUE, 0.0).asks("flow: the least ones", bits(-Double.MIN_VALUE), x -> x.flow(ROWS, 0));
        with(DOUBLE, Double.MIN_VALUE, -Double.MIN_VALUE, 0.0).asks("flow: the least ones", bits(0.0), x -> x.flow(ROWS, 3));
        double[] many = new double[64];
        for (int i = 0; i < 64; i++) {
            many[i] = 63 - i;
        }
        with(DOUBLE, many).asks("flow: 64 cells, the lower one in the middle", bits(31.0), x -> x.flow(ROWS, 3));
        with(DOUBLE, many).asks("flow: 64 cells, mean", bits(31.5), x -> x.flow(ROWS, 6));
    }

    /** Whether a is below, at most, above, at least, like, unlike b. */
    private static void compares(int kind, double a, double b, String want) {
        Edges row = with(kind, a, b);
        for (int op = 0; op <= 5; op++) {
            int of = op;
            int is = want.charAt(op) - '0';
            row.asks("test: " + a + ", " + b + ", op " + op, is, x -> x.test(ROWS, 0, 1, of, false));
            row.asks("test: " + a + ", " + b + ", op " + op + ", denied", 1 - is, x -> x.test(ROWS, 0, 1, of, true));
        }
    }

    private static void test() {
        for (int row : new int[] {-2, MIN, ROWS, MAX}) {
            at.unknown("test: ROW " + row, x -> x.test(row, 0, 0, 0, false));
            at.unknown("test: UNKNOWN ahead of OUTSIDE", x -> x.test(row, 0, 0, 6, false));
        }
        for (int op : new int[] {-1, 6, MIN, MAX}) {
            at.outside("test: op " + op, x -> x.test(DOUBLE, 0, 0, op, false));
            at.outside("test: OUTSIDE ahead of STATE", x -> x.test(0, 0, 0, op, false));
            at.outside("test: OUTSIDE ahead of NULL", x -> x.test(NONE, 0, 0, op, true));
            at.outside("test: OUTSIDE ahead of INDEX", x -> x.test(DOUBLE, -1, 0, op, true));
        }
        for (int op = 0; op <= 5; op++) {
            int of = op;
            at.fails("test: NONE", NULL, x -> x.test(NONE, 0, 0, of, false));
            at.fails("test: NULL ahead of INDEX", NULL, x -> x.test(NONE, -1, 0, of, false));
            for (int kind : new int[] {0, 1, 4, 5, 6, 7, 8}) {
                at.state("test: KIND of ROW " + kind, x -> x.test(kind, 0, 0, of, false));
                at.state("test: STATE ahead of INDEX", x -> x.test(kind, 0, 3, of, true));
            }
            for (int i : new int[] {-1, 3, MIN, MAX}) {
                at.fails("test: cell i " + i, INDEX, x -> x.test(DOUBLE, i, 0, of, false));
                at.fails("test: cell j " + i, INDEX, x -> x.test(FLOAT, 0, i, of, true));
            }
        }
        for (int kind : new int[] {FLOAT, DOUBLE}) {
            compares(kind, 1.0, 2.0, "110001");
            compares(kind, 2.0, 1.0, "001101");
            compares(kind, 2.0, 2.0, "010110");
            compares(kind, 0.0, -0.0, "010110");
            compares(kind, -0.0, 0.0, "010110");
            compares(kind, NAN, 1.0, "000001");
            compares(kind, 1.0, NAN, "000001");
            compares(kind, NAN, NAN, "000001");
            compares(kind, UP, UP, "010110");
            compares(kind, BELOW, UP, "110001");
            compares(kind, UP, NAN, "000001");
        }
        compares(DOUBLE, 1.0, Math.nextUp(1.0), "110001");
        compares(FLOAT, 1.0, Math.nextUp(1.0), "010110");
        compares(FLOAT, 1.0, Math.nextUp(1.0f), "110001");
        compares(DOUBLE, 0.0, Double.MIN_VALUE, "110001");
        compares(DOUBLE, -Double.MIN_VALUE, -0.0, "110001");
        compares(DOUBLE, Double.MAX_VALUE, UP, "110001");
        with(DOUBLE, NAN).asks("test: NO NUMBER is unlike itself", 1, x -> x.test(ROWS, 0, 0, 5, false));
        at.asks("test: the last cell and itself", 1, x -> x.test(DOUBLE, 2, 2, 4, false));
    }

    private static void sum(long a, long b, int what, long want) {
        at.asks("quotient(" + a + ", " + b + ", " + what + ")", want, x -> x.quotient(a, b, what));
    }

    private static void quotient() {
        long most = Long.MAX_VALUE;
        long least = Long.MIN_VALUE;
        for (int what : new int[] {-1, 6, MIN, MAX}) {
            at.outside("quotient: what " + what, x -> x.quotient(1, 1, what));
            at.outside("quotient: OUTSIDE ahead of ARITHMETIC", x -> x.quotient(1, 0, what));
        }
        for (int what = 0; what <= 3; what++) {
            int of = what;
            at.fails("quotient by 0, what " + what, ARITHMETIC, x -> x.quotient(7, 0, of));
            at.fails("quotient of 0 by 0, what " + what, ARITHMETIC, x -> x.quotient(0, 0, of));
            at.fails("quotient of the least by 0, what " + what, ARITHMETIC, x -> x.quotient(least, 0, of));
        }
        // By their lowest 32 bits alone.
        at.fails("quotient by 2^32 as an int", ARITHMETIC, x -> x.quotient(7, 1L << 32, 2));
        at.fails("what is left by 2^32 as an int", ARITHMETIC, x -> x.quotient(7, least, 3));
        sum(7, 1L << 32, 0, 0);
        sum(7, 1L << 32, 1, 7);
        sum(7, (1L << 32) + 2, 2, 3);
        sum((1L << 32) + 7, 2, 3, 1);
        sum(1L << 31, 2, 2, MIN / 2);
        sum(1L << 31, 2, 0, 1L << 30);
        sum(1L << 32, 10, 1, 6);
        sum(1L << 32, 10, 0, 429496729L);
        sum(most, 1L << 40, 1, (1L << 40) - 1);
        sum(least, 1L << 40, 0, -(1L << 23));
        sum(7, 2, 0, 3);
        sum(-7, 2, 0, -3);
        sum(7, -2, 0, -3);
        sum(-7, -2, 0, 3);
        sum(7, 2, 1, 1);
        sum(-7, 2, 1, -1);
        sum(7, -2, 1, 1);
        sum(-7, 2, 2, -3);
        sum(-7, 2, 3, -1);
        sum(1, 2, 0, 0);
        sum(2, 2, 1, 0);
        // The least by -1 is the least, and 0 is left.
        sum(least, -1, 0, least);
        sum(least, -1, 1, 0);
        sum(MIN, -1, 2, MIN);
        sum(MIN, -1, 3, 0);
        sum(MIN, -1, 0, 1L << 31);
        sum(least + 1, -1, 0, most);
        sum(MIN + 1, -1, 2, MAX);
        sum(least, 1, 0, least);
        sum(least, least, 0, 1);
        // Held at the bounds.
        sum(most, 0, 4, most);
        sum(most, 1, 4, most);
        sum(most - 1, 1, 4, most);
        sum(most - 2, 1, 4, most - 1);
        sum(1, most, 4, most);
        sum(most, most, 4, most);
        sum(least, 0, 4, least);
        sum(least, -1, 4, least);
        sum(least + 1, -1, 4, least);
        sum(least + 2, -1, 4, least + 1);
        sum(least, least, 4, least);
        sum(least, most, 4, -1);
        sum(0, 0, 4, 0);
        sum(most, -1, 5, most);
        sum(most - 1, -1, 5, most);
        sum(most - 2, -1, 5, most - 1);
        sum(most, 0, 5, most);
        sum(0, least, 5, most);
        sum(-1, least, 5, most);
        sum(-2, least, 5, most - 1);
        sum(least, 1, 5, least);
        sum(least + 1, 1, 5, least);
        sum(least + 2, 1, 5, least + 1);
        sum(least, most, 5, least);
        sum(least, least, 5, 0);
        sum(-1, most, 5, least);
        sum(-2, most, 5, least);
        sum(0, most, 5, least + 1);
    }

    public static void main(String[] args) {
        flow();
        test();
        quotient();
        due.end();
    }
}
