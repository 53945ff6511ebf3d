/** Promises 19 to 39. */
public final class ThingsTest {
    private static final int NULL = -2000000011, INDEX = -2000000012, SIZE = -2000000013, CAST = -2000000014, STORE = -2000000015;
    private static final int NONE = ReservoirWall.NONE, UNKNOWN = ReservoirWall.UNKNOWN, OUTSIDE = ReservoirWall.OUTSIDE, FULL = ReservoirWall.FULL;

    private static final Due due = new Due("ThingsTest");

    /** Who may hang on what is built for 0 .. 9, by bits of the sorts. */
    private static final int[] FITS = {0b000011, 0b000010, 0b001100, 0b001000, 0b110000, 0b100000, 0b000011, 0b111100, 0b101010, 0b111111};

    private static boolean fits(int sort, int built) {
        return (FITS[built] >> sort & 1) == 1;
    }

    /** One thing of each sort, numbered as the sorts, all of load 10. */
    private static ReservoirWall withThings() {
        ReservoirWall x = new ReservoirWall();
        for (int sort = 0; sort < 6; sort++) {
            x.thing(sort, 10);
        }
        return x;
    }

    private static void thingAndSays() {
        ReservoirWall x = new ReservoirWall();
        due.is("sort", x.thing(-1, 0), OUTSIDE);
        due.is("sort", x.thing(6, 0), OUTSIDE);
        due.is("load", x.thing(0, -1), OUTSIDE);
        due.is("load", x.thing(0, 1001), OUTSIDE);
        for (int i = 0; i < 40; i++) {
            due.is("thing", x.thing(i % 6, i % 2 * 1000), i);
        }
        due.is("full", x.thing(0, 0), FULL);
        due.is("outside ahead of full", x.thing(9, 0), OUTSIDE);
        due.is("things", x.about(4), 40);

        x = withThings();
        int[][] told = {
            {11, 10, 120, CAST, CAST, 11000},
            {12, 17, 51, CAST, 289, 12000},
            {21, 10, CAST, 71, CAST, 21000},
            {21, 10, CAST, 171, 100, 21000},
            {31, 10, CAST, 81, CAST, 31000},
            {32, 20, CAST, 132, 368, 32000},
        };
        for (int sort = 0; sort < 6; sort++) {
            for (int ask = 0; ask < 6; ask++) {
                due.is("says(" + sort + ", " + ask + ")", x.says(sort, ask), told[sort][ask]);
                due.is("raised", x.raised(0), told[sort][ask] == CAST ? 4 : 0);
            }
        }
        due.is("says unknown ahead of outside", x.says(6, 9), UNKNOWN);
        due.is("says outside ahead of null", x.says(NONE, 6), OUTSIDE);
        due.is("says outside", x.says(0, -1), OUTSIDE);
        due.is("says null", x.says(NONE, 2), NULL);
    }

    private static void rackHangDown() {
        ReservoirWall x = withThings();
        due.is("built for -1", x.rack(-1, 1), OUTSIDE);
        due.is("built for 10", x.rack(10, 1), OUTSIDE);
        due.is("17 places", x.rack(0, 17), OUTSIDE);
        due.is("outside ahead of size", x.rack(10, -1), OUTSIDE);
        due.is("size", x.rack(0, -1), SIZE);
        for (int built = 0; built < 10; built++) {
            due.is("rack", x.rack(built, 6), built);
            for (int sort = 0; sort < 6; sort++) {
                due.is("bare at first", x.hung(built, sort), NONE);
                due.is("hang(" + built + ", .., " + sort + ")", x.hang(built, sort, sort), fits(sort, built) ? 1 : STORE);
                due.is("hung", x.hung(built, sort), fits(sort, built) ? sort : NONE);
            }
        }
        for (int as = 0; as < 10; as++) {
            for (int sort = 0; sort < 6; sort++) {
                x.hang(9, sort, sort);
                due.is("down(9, " + sort + ", " + as + ")", x.down(9, sort, as), fits(sort, as) ? sort : CAST);
                due.is("bare behind, but if it failed", x.hung(9, sort), fits(sort, as) ? NONE : sort);
            }
        }
        x.hang(9, 0, NONE);
        due.is("bare may be taken for any", x.down(9, 0, 5), NONE);
        x.hang(9, 0, 3);
        due.is("hang nothing", x.hang(9, 0, NONE), 1);
        due.is("hung", x.hung(9, 0), NONE);

        due.is("hang index ahead of store", x.hang(0, 6, 4), INDEX);
        due.is("hang index", x.hang(0, -1, 0), INDEX);
        due.is("hang null ahead of index", x.hang(NONE, 99, 0), NULL);
        due.is("hang unknown thing ahead of null", x.hang(NONE, 0, 6), UNKNOWN);
        due.is("hang unknown rack", x.hang(10, 0, 0), UNKNOWN);
        due.is("down unknown ahead of outside", x.down(10, 0, 10), UNKNOWN);
        due.is("down outside ahead of null", x.down(NONE, 0, 10), OUTSIDE);
        due.is("down outside", x.down(0, 0, -1), OUTSIDE);
        due.is("down null", x.down(NONE, 9, 0), NULL);
        due.is("down index", x.down(0, 6, 0), INDEX);
        due.is("hung unknown", x.hung(-2, 0), UNKNOWN);
        due.is("hung null", x.hung(NONE, 9), NULL);
        due.is("hung index", x.hung(0, -1), INDEX);
        due.is("rack of 0", x.rack(9, 0), 10);
        due.is("rack of 16", x.rack(9, 16), 11);
        for (int i = 12; i < 20; i++) {
            x.rack(0, 1);
        }
        due.is("racks", x.about(5), 20);
        due.is("rack full", x.rack(0, 1), FULL);
        due.is("rack full ahead of size", x.rack(0, -1), FULL);
    }

    private static void asked() {
        ReservoirWall x = withThings();
        x.rack(9, 3);
        x.hang(0, 1, 1);
        due.is("asked", x.asked(0, 1, 2), 51);
        due.is("asked cast", x.asked(0, 1, 3), CAST);
        due.is("asked bare", x.asked(0, 0, 0), NULL);
        due.is("asked index", x.asked(0, 3, 0), INDEX);
        due.is("asked null", x.asked(NONE, 3, 0), NULL);
        due.is("asked outside ahead of null", x.asked(NONE, 3, 6), OUTSIDE);
        due.is("asked unknown ahead of outside", x.asked(1, 3, 6), UNKNOWN);
    }

    private static void haul() {
        ReservoirWall x = withThings();
        x.rack(9, 6);
        x.rack(0, 6);
        for (int i = 0; i < 5; i++) {
            x.hang(0, i, i);
        }
        due.is("on one rack, up", x.haul(0, 0, 0, 1, 5), 5);
        for (int i = 0; i < 6; i++) {
            due.is("each what was there before", x.hung(0, i), i == 0 ? 0 : i - 1);
        }
        due.is("on one rack, down", x.haul(0, 1, 0, 0, 5), 5);
        due.is("each what was there before", x.hung(0, 4), 4);
        due.is("each what was there before", x.hung(0, 0), 0);
        x.hang(0, 0, NONE);
        x.hang(1, 5, 0);
        x.hang(1, 3, 1);
        due.is("store", x.haul(0, 0, 1, 2, 4), STORE);
        due.is("raised", x.raised(0), 5);
        due.is("bare ones count", x.raised(1), 2);
        due.is("bare one hangs", x.hung(1, 2), NONE);
        due.is("second hangs", x.hung(1, 3), 1);
        due.is("third does not", x.hung(1, 4), NONE);
        due.is("beyond stays", x.hung(1, 5), 0);
        due.is("it hangs at both", x.hung(0, 1), 1);
        due.is("haul", x.haul(0, 0, 1, 0, 2), 2);
        due.is("raised", x.raised(1), 0);
        due.is("hung", x.hung(1, 1), 1);
        due.is("haul bare over", x.haul(0, 0, 1, 1, 1), 1);
        due.is("bare now", x.hung(1, 1), NONE);
        due.is("none at the end", x.haul(0, 6, 1, 6, 0), 0);
        due.is("none beyond the end", x.haul(0, 7, 1, 6, 0), INDEX);
        due.is("none beyond the end", x.haul(0, 6, 1, 7, 0), INDEX);
        due.is("n below 0", x.haul(0, 0, 1, 0, -1), INDEX);
        due.is("index, nothing is done", x.haul(0, 1, 1, 5, 2), INDEX);
        due.is("nothing was", x.hung(1, 5), 0);
        due.is("too many", x.haul(0, 1, 1, 1, Integer.MAX_VALUE), INDEX);
        due.is("null", x.haul(NONE, 0, 1, 9, 1), NULL);
        due.is("null", x.haul(0, 0, NONE, 9, 1), NULL);
        due.is("unknown", x.haul(2, 0, NONE, 9, 1), UNKNOWN);
        due.is("unknown", x.haul(NONE, 0, 2, 9, 1), UNKNOWN);
    }

    /** What box 0 holds is of these kinds, and none else; taken for them it is as told. */
    private static void kindsOfBox(ReservoirWall x, String what, int taken, int... kinds) {
        for (int kind = 0; kind <= 13; kind++) {
            boolean is = false;
            for (int k : kinds) {
                is |= k == kind;
            }
            due.is(what + " isA " + kind, x.isA(0, kind), is ? 1 : 0);
            due.is(what + " taken for " + kind, x.taken(0, kind), is ? taken : CAST);
        }
    }

    private static void boxedRows() {
        ReservoirWall x = new ReservoirWall();
        for (int kind = 0; kind < 8; kind++) {
            x.row(kind, kind + 2);
            x.box(0, 1, kind);
            kindsOfBox(x, "row " + kind, kind + 2, kind);
            due.is("used", x.used(0), kind + 2);
        }
    }

    private static void boxedThings() {
        ReservoirWall x = withThings();
        int[][] ofSorts = {{8, 9}, {8, 9, 10}, {8}, {8}, {8}, {8}};
        int[] weights = {10, 17, 10, 10, 10, 20};
        for (int sort = 0; sort < 6; sort++) {
            x.box(0, 2, sort);
            kindsOfBox(x, "thing " + sort, sort, ofSorts[sort]);
            due.is("used", x.used(0), weights[sort]);
        }
    }

    private static void boxedRacks() {
        ReservoirWall x = new ReservoirWall();
        for (int built = 0; built < 10; built++) {
            x.rack(built, 3);
            x.box(0, 3, built);
            kindsOfBox(x, "rack " + built, 3, built < 2 ? new int[] {11, 12} : built == 6 ? new int[] {11} : new int[0]);
            due.is("used", x.used(0), 3);
        }
    }

    private static void boxedBeds() {
        ReservoirWall x = new ReservoirWall();
        x.bed(1, 4, -1);
        x.bed(3, 5, 1);
        x.bed(6, 6, 1);
        x.box(0, 4, 0);
        kindsOfBox(x, "bed of ints", 4, 13);
        due.is("used", x.used(0), 4);
        x.box(0, 4, 1);
        kindsOfBox(x, "bed of doubles", 5);
        due.is("used", x.used(0), 5);
        x.box(0, 4, 2);
        kindsOfBox(x, "bed of truths", 6);
        due.is("used", x.used(0), 6);
    }

    private static void boxesOfNothing() {
        ReservoirWall x = withThings();
        x.row(0, 1);
        x.rack(9, 1);
        x.rack(9, 1);
        x.bed(1, 1, 1);
        x.bed(1, 1, 1);
        x.bed(1, 1, 1);
        x.box(0, 2, 0);
        due.is("box nothing", x.box(0, 0, 999), 1);
        for (int kind = 0; kind <= 13; kind++) {
            due.is("nothing is no kind", x.isA(0, kind), 0);
            due.is("nothing may be taken for any", x.taken(0, kind), NONE);
        }
        due.is("nothing used", x.used(0), NULL);
        due.is("raised", x.raised(0), 1);
        due.is("box 9", x.box(9, 1, 0), 1);
        due.is("box 10 ahead of what", x.box(10, 9, 0), UNKNOWN);
        due.is("box -1", x.box(-1, 0, 0), UNKNOWN);
        due.is("what 5", x.box(0, 5, 0), OUTSIDE);
        due.is("what -1", x.box(0, -1, 0), OUTSIDE);
        int[] sizes = {0, 1, 6, 2, 3};
        for (int what = 1; what <= 4; what++) {
            due.is("none named", x.box(9, what, NONE), UNKNOWN);
            due.is("unknown named", x.box(9, what, sizes[what]), UNKNOWN);
            due.is("the last named", x.box(8, what, sizes[what] - 1), 1);
        }
        due.is("refused changes nothing", x.isA(9, 0), 1);
        due.is("taken of the last box", x.taken(9, 0), 1);
        due.is("used of the last box", x.used(9), 1);
        due.is("isA unknown", x.isA(10, 14), UNKNOWN);
        due.is("isA outside", x.isA(0, 14), OUTSIDE);
        due.is("isA outside", x.isA(0, -1), OUTSIDE);
        due.is("taken unknown", x.taken(-1, 14), UNKNOWN);
        due.is("taken outside", x.taken(0, 14), OUTSIDE);
        due.is("used unknown", x.used(10), UNKNOWN);
    }

    private static void cardsAndFields() {
        ReservoirWall x = new ReservoirWall();
        due.is("card", x.card(), 0);
        long v = 0x123456789ABCDEF1L;
        long[] told = {(byte) v, (short) v, (char) v, (int) v, v, (long) (float) v, (long) (double) v, 1};
        long[] more = {(byte) (v + 3), (short) (v + 3), (char) (v + 3), (int) (v + 3), v + 3, (long) (float) v, (long) ((double) v + 3.0), 0};
        for (int f = 0; f < 8; f++) {
            due.is("at first", x.fieldOf(0, f), 0);
            due.is("field", x.field(0, f, v), 1);
            due.is("fieldOf " + f, x.fieldOf(0, f), told[f]);
            due.is("raiseField before", x.raiseField(0, f, 3, true), told[f]);
            due.is("raised " + f, x.fieldOf(0, f), more[f]);
            x.field(0, f, 0);
            due.is("raiseField behind", x.raiseField(0, f, 1, false), 1);
        }
        due.is("field unknown", x.field(1, 8, 0), UNKNOWN);
        due.is("field outside ahead of null", x.field(NONE, 8, 0), OUTSIDE);
        due.is("field outside", x.field(0, -1, 0), OUTSIDE);
        due.is("field null", x.field(NONE, 0, 0), NULL);
        due.is("fieldOf unknown", x.fieldOf(-2, 0), UNKNOWN);
        due.is("fieldOf outside", x.fieldOf(0, 8), OUTSIDE);
        due.is("fieldOf null", x.fieldOf(NONE, 7), NULL);
        due.is("raiseField unknown", x.raiseField(1, 0, 0, true), UNKNOWN);
        due.is("raiseField outside", x.raiseField(0, 8, 0, true), OUTSIDE);
        due.is("raiseField null", x.raiseField(NONE, 7, 0, true), NULL);
        for (int i = 1; i < 20; i++) {
            due.is("card", x.card(), i);
        }
        due.is("card full", x.card(), FULL);
        due.is("copy full", x.copy(0), FULL);
        due.is("copy null ahead of full", x.copy(NONE), NULL);
        due.is("cards", x.about(6), 20);
    }

    private static void linksAndRings() {
        ReservoirWall x = withThings();
        for (int i = 0; i < 6; i++) {
            x.card();
        }
        due.is("link", x.link(0, 1, 5), 1);
        x.link(1, 2, NONE);
        x.link(2, 3, NONE);
        due.is("along 0", x.along(0, 0), 0);
        due.is("along 3", x.along(0, 3), 3);
        due.is("along ends ahead", x.along(0, 4), NONE);
        due.is("no ring", x.ring(0), NONE);
        x.link(3, 1, NONE);
        due.is("along the ring", x.along(0, 100), 1);
        due.is("ring", x.ring(0), 1);
        due.is("ring from within", x.ring(2), 2);
        x.link(4, 4, NONE);
        due.is("ring of one", x.ring(4), 4);
        due.is("along a ring of one", x.along(4, 7), 4);
        due.is("ring of a single card", x.ring(5), NONE);
        due.is("along 101", x.along(0, 101), OUTSIDE);
        due.is("along -1", x.along(0, -1), OUTSIDE);
        due.is("along unknown", x.along(6, 101), UNKNOWN);
        due.is("along outside ahead of null", x.along(NONE, 101), OUTSIDE);
        due.is("along null", x.along(NONE, 0), NULL);
        due.is("ring unknown", x.ring(6), UNKNOWN);
        due.is("ring null", x.ring(NONE), NULL);
        due.is("link unknown card", x.link(6, 0, 0), UNKNOWN);
        due.is("link unknown next", x.link(NONE, 6, 0), UNKNOWN);
        due.is("link unknown thing", x.link(NONE, 0, 6), UNKNOWN);
        due.is("link null", x.link(NONE, 0, 0), NULL);
        due.is("cardAsk", x.cardAsk(0, 4), 368);
        due.is("cardAsk cast", x.cardAsk(0, 2), CAST);
        due.is("cardAsk no thing", x.cardAsk(1, 0), NULL);
        due.is("cardAsk no card", x.cardAsk(NONE, 0), NULL);
        due.is("cardAsk outside ahead of null", x.cardAsk(NONE, 6), OUTSIDE);
        due.is("cardAsk unknown ahead of outside", x.cardAsk(6, 6), UNKNOWN);

        for (int f = 0; f < 8; f++) {
            x.field(0, f, 1);
        }
        due.is("copy", x.copy(0), 6);
        x.field(0, 3, 9);
        x.link(0, NONE, NONE);
        for (int f = 0; f < 8; f++) {
            due.is("copied field", x.fieldOf(6, f), 1);
        }
        due.is("copied next", x.along(6, 1), 1);
        due.is("copied thing", x.cardAsk(6, 0), 32);
        due.is("link to none", x.along(0, 1), NONE);
        due.is("copy unknown", x.copy(7), UNKNOWN);
        due.is("copy null", x.copy(NONE), NULL);
    }

    private static void longRing() {
        ReservoirWall x = new ReservoirWall();
        for (int i = 0; i < 20; i++) {
            x.card();
        }
        for (int i = 0; i < 20; i++) {
            x.link(i, (i + 1) % 20, NONE);
        }
        due.is("ring of all", x.ring(0), 0);
        x.link(19, 19, NONE);
        due.is("ring at the end of all", x.ring(0), 19);
        x.link(19, NONE, NONE);
        due.is("chain of all", x.ring(0), NONE);
    }

    public static void main(String[] args) {
        thingAndSays();
        rackHangDown();
        asked();
        haul();
        boxedRows();
        boxedThings();
        boxedRacks();
        boxedBeds();
        boxesOfNothing();
        cardsAndFields();
        linksAndRings();
        longRing();
        due.end();
    }
}
