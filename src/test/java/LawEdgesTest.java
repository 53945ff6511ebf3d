/** The edges of part 5 and of promises 62 to 67. */
public final class LawEdgesTest {
    private static final int NONE = ReservoirWall.NONE;
    private static final int MIN = Integer.MIN_VALUE, MAX = Integer.MAX_VALUE;
    private static final long[] NO_NUMBERS = {0x7FF8000000000000L, 0x7FF0000000000001L, 0xFFF0000000000001L, -1L};
    private static final double UP = Double.POSITIVE_INFINITY, BELOW = Double.NEGATIVE_INFINITY, BIT = Double.MIN_VALUE;
    private static final long MOST = 1000000000000000L, TRILLION = 1000000000000L;
    private static final int RULES = 3, RIGHTS = 3;

    private static final Due due = new Due("LawEdgesTest");
    private static final Edges at = new Edges(due, UsedWall::build);

    private static long bits(double d) {
        return Double.doubleToRawLongBits(d);
    }

    private static void rule() {
        long low = bits(1.0);
        long high = bits(2.0);
        long out = bits(3.0);
        for (int rank : new int[] {-1, 100, MIN, MAX}) {
            at.outside("rule: RANK " + rank, x -> x.rule(rank, 0, 1, low, high, out));
        }
        int[][] days = {{-1, 5}, {-1, -1}, {5, 4}, {0, 366}, {366, 366}, {365, 366}, {MIN, 5}, {5, MAX}, {MAX, MIN}, {1, 0}, {365, 364}};
        for (int[] d : days) {
            at.outside("rule: DAYS " + d[0] + " to " + d[1], x -> x.rule(0, d[0], d[1], low, high, out));
        }
        for (long none : NO_NUMBERS) {
            at.outside("rule: low NO NUMBER", x -> x.rule(0, 0, 1, none, high, out));
            at.outside("rule: high NO NUMBER", x -> x.rule(0, 0, 1, low, none, out));
            at.outside("rule: out NO NUMBER", x -> x.rule(0, 0, 1, low, high, none));
        }
        for (double d : new double[] {-BIT, -1.0, Math.nextUp(1000000.0), UP, BELOW}) {
            at.outside("rule: out " + d, x -> x.rule(0, 0, 1, low, high, bits(d)));
        }
        for (int rank : new int[] {0, 99}) {
            for (int[] d : new int[][] {{0, 0}, {0, 365}, {365, 365}, {5, 5}, {5, 6}}) {
                for (double o : new double[] {0.0, -0.0, BIT, 1000000.0}) {
                    ReservoirWall x = at.sets("rule: RANK " + rank + ", DAYS " + d[0] + " to " + d[1] + ", out " + o, RULES, y -> y.rule(rank, d[0], d[1], low, high, bits(o)));
                    due.is("one more", x.about(8), RULES + 1);
                }
            }
        }
        for (double[] band : new double[][] {{BELOW, UP}, {UP, BELOW}, {2.0, 1.0}, {1.0, 1.0}, {-Double.MAX_VALUE, Double.MAX_VALUE}}) {
            at.sets("rule: BAND " + band[0] + " to " + band[1], RULES, x -> x.rule(0, 0, 365, bits(band[0]), bits(band[1]), out));
        }
        Edges full = at.behind(x -> rules(x, 12));
        ReservoirWall x = at.behind(y -> rules(y, 11)).sets("rule: the 12th", 11, y -> y.rule(0, 0, 1, low, high, out));
        due.is("12 RULES", x.about(8), 12);
        full.full("rule: the 13th", y -> y.rule(0, 0, 1, low, high, out));
        full.outside("rule: RANK ahead of FULL", y -> y.rule(100, 0, 1, low, high, out));
        full.outside("rule: DAYS ahead of FULL", y -> y.rule(0, 1, 0, low, high, out));
        full.outside("rule: NO NUMBER ahead of FULL", y -> y.rule(0, 0, 1, low, high, NO_NUMBERS[0]));
    }

    private static void rules(ReservoirWall x, int upTo) {
        for (int i = RULES; i < upTo; i++) {
            x.rule(99, 200, 200, bits(0.0), bits(1.0), bits(5.0));
        }
    }

    private static void ruleAt() {
        for (int day : new int[] {-1, 366, MIN, MAX}) {
            at.outside("ruleAt: day " + day, x -> x.ruleAt(day, bits(9.0)));
            at.outside("ruleAt: day " + day + " and NO NUMBER", x -> x.ruleAt(day, NO_NUMBERS[1]));
        }
        for (long none : NO_NUMBERS) {
            at.outside("ruleAt: NO NUMBER", x -> x.ruleAt(0, none));
        }
        // RULE 0: RANK 5, 0 to 365, 0.0 to 40.0; 1: RANK 5, 2 to 3, 1.0 to 39.0; 2: RANK 4, 3 to 9, 8.0 to 10.0.
        double[][] asked = {{0, 0.0, 0}, {0, -0.0, 0}, {0, -BIT, NONE}, {0, Math.nextDown(40.0), 0}, {0, 40.0, NONE}, {365, 9.0, 0}, {0, UP, NONE}, {0, BELOW, NONE},
            {2, 9.0, 0}, {3, 9.0, 2}, {9, 9.0, 2}, {10, 9.0, 0}, {3, 8.0, 2}, {3, Math.nextDown(8.0), 0}, {3, Math.nextDown(10.0), 2}, {3, 10.0, 0}};
        for (double[] a : asked) {
            at.tells("ruleAt(" + a[0] + ", " + a[1] + ")", (long) a[2], x -> x.ruleAt((int) a[0], bits(a[1])));
        }
        // Of like RANKS as they came, of unlike ones the least first.
        Edges more = at.behind(x -> {
            x.rule(4, 3, 3, bits(8.0), bits(10.0), bits(1.0));
            x.rule(3, 4, 4, bits(BELOW), bits(UP), bits(1.0));
            x.rule(0, 5, 5, bits(UP), bits(UP), bits(1.0));
            x.rule(0, 6, 6, bits(9.0), bits(9.0), bits(1.0));
        });
        more.tells("ruleAt: of like RANKS as they came", 2, x -> x.ruleAt(3, bits(9.0)));
        more.tells("ruleAt: the least RANK", 4, x -> x.ruleAt(4, bits(9.0)));
        more.tells("ruleAt: from endless on", 4, x -> x.ruleAt(4, bits(BELOW)));
        more.tells("ruleAt: below endless", NONE, x -> x.ruleAt(4, bits(UP)));
        more.tells("ruleAt: a BAND that has nothing", 2, x -> x.ruleAt(5, bits(9.0)));
        more.tells("ruleAt: a BAND that has nothing", 2, x -> x.ruleAt(6, bits(9.0)));
        due.is("ruleAt: no RULES", new ReservoirWall().ruleAt(0, 0), NONE);
    }

    private static void right() {
        for (int rank : new int[] {-1, 100, MIN, MAX}) {
            at.outside("right: RANK " + rank, x -> x.right(rank, 1, 1));
        }
        for (int share : new int[] {-1, 1001, MIN, MAX}) {
            at.outside("right: SHARE " + share, x -> x.right(0, share, 1));
        }
        for (long most : new long[] {-1, TRILLION + 1, Long.MIN_VALUE, Long.MAX_VALUE}) {
            at.outside("right: MOST " + most, x -> x.right(0, 1, most));
        }
        for (int rank : new int[] {0, 99}) {
            for (int share : new int[] {0, 1, 1000}) {
                for (long most : new long[] {0, 1, TRILLION}) {
                    ReservoirWall x = at.sets("right: " + rank + ", " + share + ", " + most, RIGHTS, y -> y.right(rank, share, most));
                    due.is("it HAS nothing", x.has(RIGHTS), 0);
                    due.is("one more", x.about(9), RIGHTS + 1);
                    x.part(MOST);
                    due.is("it gets its MOST", x.has(RIGHTS), most);
                }
            }
        }
        Edges full = at.behind(x -> rights(x, 12));
        ReservoirWall x = at.behind(y -> rights(y, 11)).sets("right: the 12th", 11, y -> y.right(0, 0, 0));
        due.is("12 RIGHTS", x.about(9), 12);
        full.full("right: the 13th", y -> y.right(0, 0, 0));
        full.outside("right: OUTSIDE ahead of FULL", y -> y.right(100, 0, 0));
        full.outside("right: OUTSIDE ahead of FULL", y -> y.right(0, 1001, 0));
        full.outside("right: OUTSIDE ahead of FULL", y -> y.right(0, 0, -1));
        for (int number : new int[] {-1, RIGHTS, 12, MIN, MAX}) {
            at.unknown("has: RIGHT " + number, y -> y.has(number));
        }
        full.unknown("has: RIGHT 12", y -> y.has(12));
        full.tells("has: RIGHT 11", 0, y -> y.has(11));
        due.is("has: no RIGHTS", new ReservoirWall().has(0), ReservoirWall.UNKNOWN);
    }

    private static void rights(ReservoirWall x, int upTo) {
        for (int i = RIGHTS; i < upTo; i++) {
            x.right(50, 1, 10);
        }
    }

    /** RIGHTS as RANK, SHARE, MOST; litres; what each HAS then. */
    private static ReservoirWall parts(String when, long[][] rights, long n, long... has) {
        ReservoirWall x = new ReservoirWall();
        for (int i = 0; i < rights.length; i++) {
            due.is("right", x.right((int) rights[i][0], (int) rights[i][1], rights[i][2]), i);
        }
        long got = 0;
        for (long h : has) {
            got += h;
        }
        due.is(when + ": part(" + n + ")", x.part(n), got);
        for (int i = 0; i < has.length; i++) {
            due.is(when + ": has(" + i + ")", x.has(i), has[i]);
        }
        return x;
    }

    private static long[][] of(long[]... rights) {
        return rights;
    }

    private static long[] r(long rank, long share, long most) {
        return new long[] {rank, share, most};
    }

    private static void part() {
        for (long n : new long[] {-1, MOST + 1, Long.MIN_VALUE, Long.MAX_VALUE}) {
            at.outside("part: " + n, x -> x.part(n));
        }
        at.tells("part: 0", 0, x -> x.part(0));
        at.sets("part: 1", 1, x -> x.part(1));
        // They want 500, 500 and 50, and have 90 in all.
        at.sets("part: all that is wanted less 1", 959, x -> x.part(959));
        at.sets("part: all that is wanted", 960, x -> x.part(960));
        at.sets("part: all that is wanted and 1", 960, x -> x.part(961));
        at.sets("part: most", 960, x -> x.part(MOST));
        due.is("part: no RIGHTS", new ReservoirWall().part(MOST), 0);

        long[][] two = of(r(5, 1, 10), r(5, 3, 10));
        parts("not more than is left", two, 20, 10, 10);
        parts("more than is left", two, 21, 10, 10);
        // 19 * 1 / 4 = 4, 19 * 3 / 4 = 14 but 10 wanted; 5 are left, to the first.
        parts("one less than is wanted", two, 19, 9, 10);
        parts("cut", two, 4, 1, 3);
        // 3 / 4 = 0, 9 / 4 = 2; the one left goes to the first.
        parts("cut, what is left goes in order", two, 3, 1, 2);
        parts("cut, what is left goes in order", two, 1, 1, 0);
        parts("nothing", two, 0, 0, 0);
        parts("SHARES of 0", of(r(0, 0, 5), r(0, 0, 5)), 7, 5, 2);
        parts("a SHARE of 0 beside another", of(r(0, 0, 5), r(0, 1, 5)), 7, 2, 5);
        parts("a SHARE of 0 beside another", of(r(0, 0, 5), r(0, 1, 5)), 5, 0, 5);
        parts("a MOST of 0", of(r(0, 1000, 0), r(0, 1, 5)), 3, 0, 3);
        // By RANK, the least first, not as they came.
        parts("the least RANK first", of(r(99, 1, 5), r(0, 1, 5), r(50, 1, 5)), 7, 0, 5, 2);
        parts("exactly the first RANK", of(r(99, 1, 5), r(0, 1, 5)), 5, 0, 5);
        parts("one beyond the first RANK", of(r(99, 1, 5), r(0, 1, 5)), 6, 1, 5);
        // The SHARE is of what was left ahead of the RANK: of 10 (15 less 5), not of what the one ahead left.
        parts("of what was left ahead of the RANK", of(r(0, 1, 5), r(1, 1, 100), r(1, 1, 100)), 15, 5, 5, 5);
        parts("three of like RANK", of(r(1, 1, 100), r(1, 1, 100), r(1, 1, 100)), 11, 5, 3, 3);
        // 10^15 times 1000 is no more than a long holds.
        long[][] great = new long[12][];
        for (int i = 0; i < 12; i++) {
            great[i] = r(7, 1000, TRILLION);
        }
        ReservoirWall x = parts("all the greatest", great, MOST, TRILLION, TRILLION, TRILLION, TRILLION, TRILLION, TRILLION, TRILLION, TRILLION, TRILLION, TRILLION, TRILLION, TRILLION);
        due.is("close", x.close(), 12 * TRILLION);
        due.is("one less", x.part(12 * TRILLION - 1), 12 * TRILLION - 1);
        long each = (12 * TRILLION - 1) / 12;
        due.is("the first gets what is left", x.has(0), TRILLION);
        due.is("the last has its cut SHARE or more", x.has(11), each);
        x = new ReservoirWall();
        x.right(3, 1000, TRILLION);
        x.right(3, 0, TRILLION);
        due.is("part", x.part(TRILLION + 1), TRILLION + 1);
        due.is("no more than it wants", x.has(0), TRILLION);
        due.is("what is left", x.has(1), 1);
        // MOST less HAVE: a second PARTING.
        x = parts("first", two, 4, 1, 3);
        due.is("second", x.part(16), 16);
        due.is("all", x.has(0) + x.has(1), 20);
        due.is("none is wanted", x.part(5), 0);
        x = parts("first", two, 4, 1, 3);
        // They want 9 and 7; of 8: 2 and 6.
        due.is("second", x.part(8), 8);
        due.is("has(0)", x.has(0), 3);
        due.is("has(1)", x.has(1), 9);
    }

    private static void close() {
        ReservoirWall x = at.sets("close", 90, y -> y.close());
        for (int i = 0; i < RIGHTS; i++) {
            due.is("all HAVE nothing", x.has(i), 0);
        }
        due.is("close again", x.close(), 0);
        due.is("they want all again", x.part(MOST), 1050);
        due.is("close: no RIGHTS", new ReservoirWall().close(), 0);
    }

    public static void main(String[] args) {
        rule();
        ruleAt();
        right();
        part();
        close();
        due.end();
    }
}
