/** The edges of part 6 and of promises 68 to 75. */
public final class FloodEdgesTest {
    private static final int NONE = ReservoirWall.NONE;
    private static final int MIN = Integer.MIN_VALUE, MAX = Integer.MAX_VALUE;
    private static final long NO_NUMBER = 0x7FF8000000000000L;
    private static final long[] NO_NUMBERS = {NO_NUMBER, 0x7FF0000000000001L, 0xFFF0000000000001L, -1L};
    private static final double UP = Double.POSITIVE_INFINITY, BELOW = Double.NEGATIVE_INFINITY, BIT = Double.MIN_VALUE;

    private static final Due due = new Due("FloodEdgesTest");
    private static final Edges at = new Edges(due, UsedWall::build);

    private static long bits(double d) {
        return Double.doubleToRawLongBits(d);
    }

    private static void hours() {
        for (int n : new int[] {0, -1, 13, MIN, MAX}) {
            at.outside("hours: " + n, x -> x.hours(n));
        }
        due.is("12 at first", new ReservoirWall().hours(1), 12);
        for (int n : new int[] {1, 2, 11, 12}) {
            ReservoirWall x = at.sets("hours: " + n, 3, y -> y.hours(n));
            due.is("they were " + n, x.hours(3), n);
        }
        at.tells("hours: as before", 3, x -> x.hours(3));
    }

    private static void ahead() {
        for (int run : new int[] {-1, 6, MIN, MAX}) {
            at.unknown("ahead: RUN " + run, x -> x.ahead(run, 0, bits(1.0)));
            at.unknown("ahead: UNKNOWN ahead of OUTSIDE", x -> x.ahead(run, 12, bits(1.0)));
            at.unknown("ahead: UNKNOWN ahead of OUTSIDE", x -> x.ahead(run, 0, bits(-1.0)));
            at.unknown("peak: RUN " + run, x -> x.peak(run));
        }
        for (int hour : new int[] {-1, 12, MIN, MAX}) {
            at.outside("ahead: hour " + hour, x -> x.ahead(0, hour, bits(1.0)));
            at.outside("ahead: none at hour " + hour, x -> x.ahead(0, hour, NO_NUMBER));
        }
        for (double d : new double[] {-BIT, -1.0, Math.nextUp(1000000.0), UP, BELOW}) {
            at.outside("ahead: " + d, x -> x.ahead(0, 0, bits(d)));
            at.outside("release: " + d, x -> x.release(0, bits(d)));
            at.outside("release: " + d + " where there is none", x -> x.release(1, bits(d)));
        }
        for (double d : new double[] {0.0, -0.0, BIT, Math.nextDown(1000000.0), 1000000.0}) {
            for (int run : new int[] {0, 5}) {
                for (int hour : new int[] {0, 11}) {
                    at.sets("ahead: RUN " + run + ", hour " + hour + ", " + d, 1, x -> x.ahead(run, hour, bits(d)));
                }
            }
            for (int k : new int[] {0, 7}) {
                ReservoirWall x = at.sets("release: " + k + ", " + d, 1, y -> y.release(k, bits(d)));
                due.is("it is there", x.regret(k) == ReservoirWall.UNKNOWN ? 0 : 1, 1);
            }
        }
        for (long none : NO_NUMBERS) {
            ReservoirWall x = at.sets("ahead: none", 1, y -> y.ahead(0, 2, none));
            due.is("the RUN lacks", x.peak(0), NONE);
            due.is("another does not", x.peak(4), 0);
            x = at.sets("release: not there", 1, y -> y.release(3, none));
            due.is("it is UNKNOWN", x.regret(3), ReservoirWall.UNKNOWN);
            due.is("it is UNKNOWN", x.routed(0, 3, 0), ReservoirWall.UNKNOWN);
        }
        for (int k : new int[] {-1, 8, MIN, MAX}) {
            at.unknown("release: " + k, x -> x.release(k, bits(1.0)));
            at.unknown("release: UNKNOWN ahead of OUTSIDE", x -> x.release(k, bits(-1.0)));
            at.unknown("release: none, " + k, x -> x.release(k, NO_NUMBER));
            at.unknown("regret: " + k, x -> x.regret(k));
        }
        at.unknown("regret: not there", x -> x.regret(1));
        at.tells("release: none where none is", 1, x -> x.release(1, NO_NUMBER));
        at.tells("ahead: none where none is", 1, x -> x.ahead(1, 0, NO_NUMBER));
    }

    private static void routedEdges() {
        for (int run : new int[] {-1, 6, MIN, MAX}) {
            at.unknown("routed: RUN " + run, x -> x.routed(run, 0, 0));
            at.unknown("routed: UNKNOWN ahead of OUTSIDE", x -> x.routed(run, 0, 3));
        }
        for (int k : new int[] {-1, 8, 1, MIN, MAX}) {
            at.unknown("routed: RELEASE " + k, x -> x.routed(0, k, 0));
            at.unknown("routed: UNKNOWN ahead of OUTSIDE", x -> x.routed(0, k, 3));
            at.unknown("routed: UNKNOWN, though the RUN lacks", x -> x.routed(1, k, 0));
        }
        for (int hour : new int[] {-1, 3, 11, 12, MIN, MAX}) {
            at.outside("routed: hour " + hour, x -> x.routed(0, 0, hour));
            at.outside("routed: hour " + hour + ", though the RUN lacks", x -> x.routed(1, 0, hour));
        }
        for (int hour = 0; hour < 3; hour++) {
            int of = hour;
            at.tells("routed: the RUN lacks", NO_NUMBER, x -> x.routed(1, 0, of));
            at.tells("routed: the RUN lacks at a later hour", NO_NUMBER, x -> x.routed(5, 0, of));
        }
        at.behind(x -> x.hours(1)).sets("routed: of one HOUR it does not lack", 1, x -> x.routed(5, 0, 0) == NO_NUMBER ? 0 : 1);
        at.behind(x -> x.hours(1)).outside("routed: hour 1 of one", x -> x.routed(5, 0, 1));
        at.behind(x -> x.hours(4)).tells("routed: of four HOURS all lack", NO_NUMBER, x -> x.routed(0, 0, 0));
        at.behind(x -> x.hours(12)).outside("routed: hour 12 of 12", x -> x.routed(0, 0, 12));
        at.behind(x -> x.hours(12)).tells("routed: hour 11 of 12", NO_NUMBER, x -> x.routed(0, 0, 11));
    }

    /** A new wall (VOLUME 100000.0) of n HOURS, with RUN 0 of these INFLOWS. */
    private static ReservoirWall with(double... inflows) {
        ReservoirWall x = new ReservoirWall();
        x.hours(inflows.length);
        for (int hour = 0; hour < inflows.length; hour++) {
            x.ahead(0, hour, bits(inflows[hour]));
        }
        return x;
    }

    private static void routing() {
        ReservoirWall x = with(0.0, 5.0, 0.0);
        x.release(0, bits(100000.0));
        due.real("exactly 0.0", x.routed(0, 0, 0), 0.0);
        due.real("0.0 if below 0.0", x.routed(0, 0, 1), 0.0);
        x.release(0, bits(99999.0));
        due.real("a unit above", x.routed(0, 0, 0), 1.0);
        due.real("below", x.routed(0, 0, 1), 0.0);
        x.release(0, bits(100001.0));
        due.real("a unit below", x.routed(0, 0, 0), 0.0);
        x.release(0, bits(-0.0));
        due.real("a RELEASE of -0.0", x.routed(0, 0, 2), 100005.0);
        x.release(0, bits(Math.nextDown(100000.0)));
        due.real("just above 0.0", x.routed(0, 0, 0), 100000.0 - Math.nextDown(100000.0));
        x.release(0, bits(Math.nextUp(100000.0)));
        due.real("just below 0.0", x.routed(0, 0, 0), 0.0);
        // From the left: v + inflow - x.
        x = with(0.1);
        x.release(0, bits(0.3));
        due.real("from the left", x.routed(0, 0, 0), 100000.0 + 0.1 - 0.3);

        // T(30) is 960000: peak is what is over, LOSS is peak peak + x 10.0.
        double[][] over = {{859999.0, 0.0}, {860000.0, 0.0}, {860001.0, 1.0}, {860000.5, 0.25}, {1000000.0, 140000.0 * 140000.0}};
        for (double[] o : over) {
            x = with(o[0]);
            x.release(2, bits(0.0));
            due.real("REGRET at INFLOW " + o[0], x.regret(2), o[1]);
        }
        // The greatest over, whichever hour; x 10.0 beside it.
        x = with(860003.0, 1.0, 0.0);
        x.release(0, bits(1.0));
        due.real("peak", x.regret(0), 2.0 * 2.0 + 10.0);
        x = with(859000.0, 1004.0, 1.0);
        x.release(0, bits(1.0));
        due.real("peak at the second hour", x.regret(0), 2.0 * 2.0 + 10.0);
        x = with(0.0, 0.0, 860004.0);
        x.release(0, bits(1.0));
        due.real("peak at the last hour", x.regret(0), 1.0 + 10.0);
        // The greatest LOSS over RUNS that do not lack.
        x = with(860001.0, 0.0);
        x.ahead(5, 0, bits(860003.0));
        x.release(0, bits(0.0));
        due.real("RUN 5 lacks", x.regret(0), 1.0);
        x.ahead(5, 1, bits(0.0));
        due.real("RUN 5 lacks no more", x.regret(0), 9.0);
        x.hours(1);
        due.real("of one HOUR", x.regret(0), 9.0);
        x.ahead(5, 0, NO_NUMBER);
        due.real("RUN 5 lacks", x.regret(0), 1.0);
        x.ahead(0, 0, NO_NUMBER);
        x.release(1, bits(1000000.0));
        due.real("all RUNS lack", x.regret(1), 0.0);
        due.real("no RUN at all", withRelease(7, 5.0).regret(7), 0.0);
        // 12 HOURS: the last one counts.
        x = with(0.0, 0.0, 0.0, 0.0, 0.0, 0.0, 0.0, 0.0, 0.0, 0.0, 0.0, 860007.0);
        x.release(0, bits(0.0));
        due.real("the 12th HOUR", x.regret(0), 49.0);
        due.real("the 12th HOUR", x.routed(0, 0, 11), 960007.0);
        due.real("the 11th HOUR", x.routed(0, 0, 10), 100000.0);
        due.is("peak", x.peak(0), 11);
    }

    private static ReservoirWall withRelease(int k, double d) {
        ReservoirWall x = new ReservoirWall();
        x.release(k, bits(d));
        return x;
    }

    private static void chosen() {
        due.is("none is there", new ReservoirWall().chosen(), NONE);
        for (int k = 0; k < 8; k++) {
            due.is("one alone", withRelease(k, 5.0).chosen(), k);
        }
        ReservoirWall x = with(860002.0);
        x.release(6, bits(2.0));
        due.is("one alone", x.chosen(), 6);
        // REGRETS: 20.0, 0.0 + 4.0.
        x.release(7, bits(0.0));
        due.is("the least REGRET", x.chosen(), 7);
        x.release(5, bits(0.0));
        due.is("of like ones the lesser number", x.chosen(), 5);
        x.release(6, bits(-0.0));
        due.is("-0.0 is no lesser x", x.chosen(), 5);
        x.release(0, bits(0.5));
        // 1.5 * 1.5 + 5.0 is more than 4.0.
        due.is("the least REGRET still", x.chosen(), 5);
        // Of like REGRETS the lesser x: 12.0 + 0.0 squared .. here all RUNS lack, so all are 0.0.
        x.ahead(0, 0, NO_NUMBER);
        x.release(5, bits(3.0));
        x.release(6, bits(1.0));
        x.release(7, bits(2.0));
        x.release(0, bits(1.0));
        due.is("of like ones the lesser x, then the lesser number", x.chosen(), 0);
        x.release(0, NO_NUMBER);
        due.is("the lesser x", x.chosen(), 6);
        x.release(6, NO_NUMBER);
        due.is("the lesser x", x.chosen(), 7);
        x.release(7, NO_NUMBER);
        due.is("the last one", x.chosen(), 5);
        x.release(5, NO_NUMBER);
        due.is("none is there", x.chosen(), NONE);
        // 10 * 10 + 0.0 is like 0.0 + 10.0 * 10.0: the lesser x.
        x = with(860010.0);
        x.release(1, bits(10.0));
        x.release(4, bits(0.0));
        due.real("REGRET", x.regret(1), 100.0);
        due.real("REGRET", x.regret(4), 100.0);
        due.is("of like REGRETS the lesser x", x.chosen(), 4);
        at.tells("chosen", 0, y -> y.chosen());
    }

    private static void peak() {
        due.is("it lacks at first", new ReservoirWall().peak(0), NONE);
        due.is("the first of like ones", with(3.0, 3.0).peak(0), 0);
        due.is("the greater", with(3.0, Math.nextUp(3.0)).peak(0), 1);
        due.is("0.0 and -0.0 are like", with(-0.0, 0.0).peak(0), 0);
        due.is("0.0 and -0.0 are like", with(0.0, -0.0).peak(0), 0);
        due.is("the least one is greater than 0.0", with(0.0, BIT).peak(0), 1);
        due.is("one HOUR", with(0.0).peak(0), 0);
        ReservoirWall x = with(1.0, 2.0, 3.0);
        x.hours(2);
        due.is("of two HOURS", x.peak(0), 1);
        x.hours(4);
        due.is("of four it lacks", x.peak(0), NONE);
        at.tells("peak", 2, y -> y.peak(0));
        at.tells("peak", 0, y -> y.peak(4));
        at.tells("peak: it lacks", NONE, y -> y.peak(5));
    }

    private static void chance() {
        for (int part : new int[] {-1, 2, MIN, MAX}) {
            at.outside("chance: part " + part, x -> x.chance(bits(0.0), part));
            at.outside("chance: part " + part + " and NO NUMBER", x -> x.chance(NO_NUMBER, part));
        }
        for (long none : NO_NUMBERS) {
            at.outside("chance: NO NUMBER", x -> x.chance(none, 0));
            at.outside("chance: NO NUMBER", x -> x.chance(none, 1));
        }
        // RUN 0: 400000 .. 400002, RUN 4: 3, 2, 1; RUN 5 lacks.
        double[][] asked = {{400002.0, 0}, {Math.nextDown(400002.0), 1}, {3.0, 1}, {Math.nextDown(3.0), 2}, {0.0, 2}, {-0.0, 2}, {BELOW, 2}, {UP, 0}, {-Double.MAX_VALUE, 2}};
        for (double[] a : asked) {
            at.tells("chance of " + a[0], (long) a[1], x -> x.chance(bits(a[0]), 0));
            at.tells("chance of " + a[0] + ", of how many", 2, x -> x.chance(bits(a[0]), 1));
        }
        ReservoirWall x = new ReservoirWall();
        due.is("no RUN", x.chance(bits(-1.0), 0), 0);
        due.is("no RUN", x.chance(bits(-1.0), 1), 0);
        x.hours(1);
        for (int run = 0; run < 6; run++) {
            x.ahead(run, 0, bits(0.0));
        }
        due.is("all RUNS", x.chance(bits(-BIT), 0), 6);
        due.is("an inflow is not above itself", x.chance(bits(0.0), 0), 0);
        due.is("0.0 is not above -0.0", x.chance(bits(-0.0), 0), 0);
        due.is("all RUNS", x.chance(bits(0.0), 1), 6);
    }

    public static void main(String[] args) {
        hours();
        ahead();
        routedEdges();
        routing();
        chosen();
        peak();
        chance();
        due.end();
    }
}
