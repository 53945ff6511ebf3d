/** Promises 40 to 42. */
public final class SumsTest {
    private static final int NULL = -2000000011, INDEX = -2000000012, ARITHMETIC = -2000000016;
    private static final int NONE = ReservoirWall.NONE, UNKNOWN = ReservoirWall.UNKNOWN, OUTSIDE = ReservoirWall.OUTSIDE, STATE = ReservoirWall.STATE;
    private static final double NO_NUMBER = Double.NaN, ENDLESS = Double.POSITIVE_INFINITY;

    private static final Due due = new Due("SumsTest");

    private static ReservoirWall withRow(int kind, double... cells) {
        ReservoirWall x = new ReservoirWall();
        x.row(kind, cells.length);
        for (int i = 0; i < cells.length; i++) {
            x.putReal(0, i, Double.doubleToLongBits(cells[i]));
        }
        return x;
    }

    private static void flows(double[] cells, double... want) {
        ReservoirWall x = withRow(3, cells);
        for (int what = 0; what < 7; what++) {
            due.real("flow " + what + " of " + java.util.Arrays.toString(cells), x.flow(0, what), want[what]);
        }
    }

    private static void flow() {
        flows(new double[] {3.0, 1.0, 2.0, 8.0}, 1.0, 8.0, 3.5, 2.0, 1.0, 8.0, 3.5);
        flows(new double[] {3.0, NO_NUMBER, 2.0, 8.0}, 2.0, 8.0, 13.0 / 3.0, 3.0, NO_NUMBER, NO_NUMBER, NO_NUMBER);
        flows(new double[] {}, NO_NUMBER, NO_NUMBER, NO_NUMBER, NO_NUMBER, NO_NUMBER, NO_NUMBER, NO_NUMBER);
        flows(new double[] {NO_NUMBER}, NO_NUMBER, NO_NUMBER, NO_NUMBER, NO_NUMBER, NO_NUMBER, NO_NUMBER, NO_NUMBER);
        flows(new double[] {0.0, -0.0}, 0.0, 0.0, 0.0, -0.0, 0.0, 0.0, 0.0);
        flows(new double[] {-0.0, 0.0}, -0.0, -0.0, 0.0, -0.0, -0.0, -0.0, 0.0);
        flows(new double[] {-0.0, 0.0, -0.0}, -0.0, -0.0, 0.0, -0.0, -0.0, -0.0, 0.0);
        flows(new double[] {-0.0}, -0.0, -0.0, 0.0, -0.0, -0.0, -0.0, 0.0);
        flows(new double[] {ENDLESS, 1.0}, 1.0, ENDLESS, ENDLESS, 1.0, 1.0, ENDLESS, ENDLESS);
        flows(new double[] {ENDLESS, -ENDLESS, 1.0}, -ENDLESS, ENDLESS, NO_NUMBER, 1.0, -ENDLESS, ENDLESS, NO_NUMBER);
        flows(new double[] {-1e308, -1e308, ENDLESS}, -1e308, ENDLESS, NO_NUMBER, -1e308, -1e308, ENDLESS, NO_NUMBER);
        flows(new double[] {1e308, 1e308, -1e308}, -1e308, 1e308, ENDLESS, 1e308, -1e308, 1e308, ENDLESS);
        flows(new double[] {1e16, 1.0, -1e16}, -1e16, 1e16, 0.0, 1.0, -1e16, 1e16, 0.0);
        flows(new double[] {-5e-324, 0.0}, -5e-324, 0.0, -0.0, -5e-324, -5e-324, 0.0, -0.0);

        ReservoirWall x = withRow(2, 0.1, 0.2);
        due.real("floats as reals", x.flow(0, 2), ((double) 0.1f + (double) 0.2f) / 2);
        x.row(1, 1);
        due.is("another kind", x.flow(1, 0), STATE);
        due.is("outside ahead of state", x.flow(1, 7), OUTSIDE);
        due.is("outside ahead of null", x.flow(NONE, -1), OUTSIDE);
        due.is("unknown ahead of outside", x.flow(2, 7), UNKNOWN);
        due.is("null", x.flow(NONE, 0), NULL);
        due.is("raised", x.raised(0), 1);
        x.flow(1, 0);
        due.is("refused leaves raised", x.raised(0), 1);
        x.flow(0, 0);
        due.is("raised", x.raised(0), 0);
    }

    private static void test() {
        for (int kind = 2; kind <= 3; kind++) {
            ReservoirWall x = withRow(kind, 1.0, 2.0, NO_NUMBER, 0.0, -0.0);
            int[][] pairs = {{0, 1}, {1, 0}, {1, 1}, {0, 2}, {2, 0}, {2, 2}, {3, 4}};
            String[] want = {"110001", "001101", "010110", "000001", "000001", "000001", "010110"};
            for (int p = 0; p < pairs.length; p++) {
                for (int op = 0; op < 6; op++) {
                    int so = want[p].charAt(op) - '0';
                    due.is("test " + op, x.test(0, pairs[p][0], pairs[p][1], op, false), so);
                    due.is("denied " + op, x.test(0, pairs[p][0], pairs[p][1], op, true), 1 - so);
                }
            }
            due.is("index", x.test(0, 5, 0, 0, false), INDEX);
            due.is("index", x.test(0, 0, -1, 0, false), INDEX);
            due.is("outside ahead of index", x.test(0, 5, 0, 6, false), OUTSIDE);
            due.is("outside ahead of null", x.test(NONE, 5, 0, -1, false), OUTSIDE);
            due.is("null", x.test(NONE, 5, 0, 0, false), NULL);
            due.is("unknown", x.test(1, 0, 0, 9, false), UNKNOWN);
            x.row(7, 0);
            due.is("state ahead of index", x.test(1, 0, 0, 0, false), STATE);
        }
    }

    private static void quotient() {
        ReservoirWall x = new ReservoirWall();
        long least = Long.MIN_VALUE;
        long most = Long.MAX_VALUE;
        long high = 1L << 32;
        due.is("cut", x.quotient(-7, 2, 0), -3);
        due.is("left", x.quotient(-7, 2, 1), -1);
        due.is("cut ints", x.quotient(high + 7, -2, 2), -3);
        due.is("left ints", x.quotient(high + 7, -2, 3), 1);
        due.is("least by -1", x.quotient(least, -1, 0), least);
        due.is("least by -1, left", x.quotient(least, -1, 1), 0);
        due.is("least int by -1", x.quotient(Integer.MIN_VALUE, -1, 2), Integer.MIN_VALUE);
        due.is("least int by -1, left", x.quotient(Integer.MIN_VALUE, -1, 3), 0);
        for (int what = 0; what < 4; what++) {
            due.is("by 0", x.quotient(5, 0, what), ARITHMETIC);
            due.is("raised", x.raised(0), 6);
        }
        due.is("by 0 as ints", x.quotient(5, high, 2), ARITHMETIC);
        due.is("by 0 as ints, left", x.quotient(5, high, 3), ARITHMETIC);
        due.is("not 0 as a long", x.quotient(high, high, 0), 1);
        due.is("sum", x.quotient(5, -7, 4), -2);
        due.is("sum held", x.quotient(most, 1, 4), most);
        due.is("sum held", x.quotient(least, -1, 4), least);
        due.is("sum at the bound", x.quotient(most - 1, 1, 4), most);
        due.is("sum of both bounds", x.quotient(least, most, 4), -1);
        due.is("sum of twice the least", x.quotient(least, least, 4), least);
        due.is("difference", x.quotient(5, 7, 5), -2);
        due.is("difference held", x.quotient(least, 1, 5), least);
        due.is("difference held", x.quotient(0, least, 5), most);
        due.is("difference at the bound", x.quotient(-1, least, 5), most);
        due.is("difference of likes", x.quotient(least, least, 5), 0);
        due.is("0 is no matter there", x.quotient(5, 0, 5), 5);
        due.is("raised", x.raised(0), 0);
        due.is("outside", x.quotient(1, 0, 6), OUTSIDE);
        due.is("outside", x.quotient(1, 0, -1), OUTSIDE);
    }

    public static void main(String[] args) {
        flow();
        test();
        quotient();
        due.end();
    }
}
