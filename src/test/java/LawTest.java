/** Promises 62 to 67. */
public final class LawTest {
    private static final int NONE = ReservoirWall.NONE, UNKNOWN = ReservoirWall.UNKNOWN, OUTSIDE = ReservoirWall.OUTSIDE, FULL = ReservoirWall.FULL;
    private static final long NO_NUMBER = 0x7FF8000000000000L, OTHER_NO_NUMBER = 0x7FF0000000000001L;

    private static final Due due = new Due("LawTest");

    private static long bits(double d) {
        return Double.doubleToRawLongBits(d);
    }

    private static void rules() {
        ReservoirWall x = new ReservoirWall();
        long low = bits(1.0);
        long high = bits(5.0);
        long out = bits(10.0);
        due.is("rank -1", x.rule(-1, 0, 9, low, high, out), OUTSIDE);
        due.is("rank 100", x.rule(100, 0, 9, low, high, out), OUTSIDE);
        due.is("from -1", x.rule(0, -1, 9, low, high, out), OUTSIDE);
        due.is("to 366", x.rule(0, 0, 366, low, high, out), OUTSIDE);
        due.is("from above to", x.rule(0, 9, 8, low, high, out), OUTSIDE);
        due.is("low", x.rule(0, 0, 9, NO_NUMBER, high, out), OUTSIDE);
        due.is("high", x.rule(0, 0, 9, low, OTHER_NO_NUMBER, out), OUTSIDE);
        due.is("out", x.rule(0, 0, 9, low, high, NO_NUMBER), OUTSIDE);
        due.is("out below", x.rule(0, 0, 9, low, high, bits(-1.0)), OUTSIDE);
        due.is("out above", x.rule(0, 0, 9, low, high, bits(1000001.0)), OUTSIDE);
        due.is("none", x.about(8), 0);
        due.is("rule", x.rule(50, 10, 20, low, high, out), 0);
        due.is("first day", x.ruleAt(10, low), 0);
        due.is("last day", x.ruleAt(20, low), 0);
        due.is("day ahead", x.ruleAt(9, low), NONE);
        due.is("day behind", x.ruleAt(21, low), NONE);
        due.is("from low on", x.ruleAt(15, low), 0);
        due.is("below low", x.ruleAt(15, bits(Math.nextDown(1.0))), NONE);
        due.is("below high", x.ruleAt(15, bits(Math.nextDown(5.0))), 0);
        due.is("not at high", x.ruleAt(15, high), NONE);
        due.is("like rank comes later", x.rule(50, 0, 365, bits(-1e300), bits(1e300), out), 1);
        due.is("as they came", x.ruleAt(15, bits(3.0)), 0);
        due.is("the other", x.ruleAt(15, bits(7.0)), 1);
        due.is("a lesser rank", x.rule(49, 15, 15, bits(Double.NEGATIVE_INFINITY), bits(Double.POSITIVE_INFINITY), bits(1000000.0)), 2);
        due.is("by rank", x.ruleAt(15, bits(3.0)), 2);
        due.is("endless", x.ruleAt(15, bits(Double.NEGATIVE_INFINITY)), 2);
        due.is("below endless", x.ruleAt(15, bits(Double.POSITIVE_INFINITY)), NONE);
        due.is("day -1", x.ruleAt(-1, low), OUTSIDE);
        due.is("day 366", x.ruleAt(366, low), OUTSIDE);
        due.is("no number", x.ruleAt(15, OTHER_NO_NUMBER), OUTSIDE);
        for (int i = 3; i < 12; i++) {
            due.is("rule", x.rule(99, 365, 365, high, low, bits(-0.0)), i);
        }
        due.is("a band that is none", x.ruleAt(365, bits(3.0)), 1);
        due.is("full", x.rule(0, 0, 9, low, high, out), FULL);
        due.is("outside ahead of full", x.rule(-1, 0, 9, low, high, out), OUTSIDE);
        due.is("rules", x.about(8), 12);
    }

    private static void have(ReservoirWall x, String when, long... want) {
        for (int i = 0; i < want.length; i++) {
            due.is(when + ": has(" + i + ")", x.has(i), want[i]);
        }
    }

    private static void rights() {
        ReservoirWall x = new ReservoirWall();
        due.is("rank -1", x.right(-1, 1, 1), OUTSIDE);
        due.is("rank 100", x.right(100, 1, 1), OUTSIDE);
        due.is("share -1", x.right(0, -1, 1), OUTSIDE);
        due.is("share 1001", x.right(0, 1001, 1), OUTSIDE);
        due.is("most -1", x.right(0, 1, -1), OUTSIDE);
        due.is("most above", x.right(0, 1, 1000000000001L), OUTSIDE);
        due.is("right", x.right(5, 1, 100), 0);
        due.is("right", x.right(5, 3, 100), 1);
        due.is("right", x.right(2, 7, 50), 2);
        due.is("right", x.right(99, 1000, 1000000000000L), 3);
        have(x, "at first", 0, 0, 0, 0);
        due.is("part -1", x.part(-1), OUTSIDE);
        due.is("part above", x.part(1000000000000001L), OUTSIDE);
        due.is("part nothing", x.part(0), 0);
        due.is("part", x.part(91), 91);
        have(x, "the least rank first, then by shares, what is left in order", 11, 30, 50, 0);
        due.is("part more", x.part(160), 160);
        have(x, "all of rank 5", 100, 100, 50, 1);
        due.is("part much", x.part(1000000000000000L), 999999999999L);
        have(x, "all", 100, 100, 50, 1000000000000L);
        due.is("close", x.close(), 1000000000250L);
        have(x, "closed", 0, 0, 0, 0);
        due.is("close again", x.close(), 0);
        due.is("has unknown", x.has(4), UNKNOWN);
        due.is("has unknown", x.has(-1), UNKNOWN);

        x = new ReservoirWall();
        x.right(0, 1, 1000);
        x.right(0, 9, 10);
        due.is("part", x.part(500), 500);
        have(x, "not more than it wants; the rest in order", 490, 10);

        x = new ReservoirWall();
        x.right(0, 0, 70);
        x.right(0, 0, 70);
        x.right(1, 5, 70);
        due.is("part", x.part(100), 100);
        have(x, "no shares: in order", 70, 30, 0);

        x = new ReservoirWall();
        x.right(0, 1000, 1000000000000L);
        for (int i = 1; i < 12; i++) {
            due.is("right", x.right(0, 1000, 1000000000000L), i);
        }
        due.is("rights", x.about(9), 12);
        due.is("full", x.right(0, 1, 1), FULL);
        due.is("outside ahead of full", x.right(-1, 1, 1), OUTSIDE);
        due.is("part much", x.part(11999999999999L), 11999999999999L);
        have(x, "to the litre", 1000000000000L, 1000000000000L);
        due.is("the last one", x.has(11), 999999999999L);
    }

    public static void main(String[] args) {
        rules();
        rights();
        due.end();
    }
}
