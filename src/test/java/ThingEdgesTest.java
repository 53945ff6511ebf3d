import java.util.function.ToLongFunction;

/** The edges of part 2 and of promises 19 to 39. */
public final class ThingEdgesTest {
    private static final int NULL = Edges.NULL, INDEX = Edges.INDEX, SIZE = Edges.SIZE, CAST = Edges.CAST, STORE = Edges.STORE;
    private static final int NONE = ReservoirWall.NONE, FAILED = ReservoirWall.FAILED;
    private static final int MIN = Integer.MIN_VALUE, MAX = Integer.MAX_VALUE;
    private static final int THINGS = 6, RACKS = 3, CARDS = 3;
    private static final int FLOAT = 0, WIRE = 1, FLAP = 2, ROLLER = 3, EARTH = 4, STONE = 5;

    private static final Due due = new Due("ThingEdgesTest");
    private static final Edges at = new Edges(due, UsedWall::build);
    private static final Edges fullOfThings = at.behind(x -> things(x, 40));
    private static final Edges fullOfRacks = at.behind(x -> racks(x, 20));
    private static final Edges fullOfCards = at.behind(x -> cards(x, 20));

    private static void things(ReservoirWall x, int upTo) {
        for (int i = THINGS; i < upTo; i++) {
            x.thing(i % 6, 1);
        }
    }

    private static void racks(ReservoirWall x, int upTo) {
        for (int i = RACKS; i < upTo; i++) {
            x.rack(9, 1);
        }
    }

    private static void cards(ReservoirWall x, int upTo) {
        for (int i = CARDS; i < upTo; i++) {
            x.card();
        }
    }

    private static void thing() {
        for (int sort : new int[] {-1, 6, MIN, MAX}) {
            at.outside("thing: SORT " + sort, x -> x.thing(sort, 1));
        }
        for (int load : new int[] {-1, 1001, MIN, MAX}) {
            at.outside("thing: LOAD " + load, x -> x.thing(FLOAT, load));
        }
        for (int sort = FLOAT; sort <= STONE; sort++) {
            int of = sort;
            for (int load : new int[] {0, 1, 999, 1000}) {
                ReservoirWall x = at.sets("thing: SORT " + sort + ", LOAD " + load, THINGS, y -> y.thing(of, load));
                due.is("its WEIGHT", x.says(THINGS, 1), sort == WIRE ? load + 7 : sort == STONE ? 2 * load : load);
                due.is("one more", x.about(4), THINGS + 1);
            }
        }
        ReservoirWall x = at.behind(y -> things(y, 39)).sets("thing: the 40th", 39, y -> y.thing(0, 0));
        due.is("40 THINGS", x.about(4), 40);
        fullOfThings.full("thing: the 41st", y -> y.thing(0, 0));
        fullOfThings.outside("thing: SORT ahead of FULL", y -> y.thing(6, 0));
        fullOfThings.outside("thing: LOAD ahead of FULL", y -> y.thing(0, 1001));
    }

    /** What each SORT tells of LOADS 0 and 1000; CAST where it has not the FACE. */
    private static final int[][] OF_LOAD_0 = {
        {11, 0, 110, CAST, CAST, 11000}, {12, 7, 21, CAST, 49, 12000}, {21, 0, CAST, 21, CAST, 21000},
        {21, 0, CAST, 121, 0, 21000}, {31, 0, CAST, 31, CAST, 31000}, {32, 0, CAST, 32, -32, 32000}};
    private static final int[][] OF_LOAD_1000 = {
        {11, 1000, 1110, CAST, CAST, 11000}, {12, 1007, 3021, CAST, 1014049, 12000}, {21, 1000, CAST, 5021, CAST, 21000},
        {21, 1000, CAST, 5121, 1000000, 21000}, {31, 1000, CAST, 5031, CAST, 31000}, {32, 2000, CAST, 10032, 3999968, 32000}};

    private static void told(String call, int want, Edges of, ToLongFunction<ReservoirWall> on) {
        if (want == CAST) {
            of.fails(call, CAST, on);
        } else {
            of.asks(call, want, on);
        }
    }

    private static void says() {
        for (int thing : new int[] {-2, MIN, THINGS, MAX}) {
            at.unknown("says: THING " + thing, x -> x.says(thing, 0));
            at.unknown("says: UNKNOWN ahead of OUTSIDE", x -> x.says(thing, 6));
        }
        fullOfThings.unknown("says: THING 40", x -> x.says(40, 0));
        fullOfThings.asks("says: THING 39", 21, x -> x.says(39, 0));
        for (int ask : new int[] {-1, 6, MIN, MAX}) {
            at.outside("says: ASKED " + ask, x -> x.says(0, ask));
            at.outside("says: OUTSIDE ahead of NULL", x -> x.says(NONE, ask));
        }
        for (int ask = 0; ask <= 5; ask++) {
            int of = ask;
            at.fails("says: NONE", NULL, x -> x.says(NONE, of));
            for (int sort = FLOAT; sort <= STONE; sort++) {
                int made = sort;
                Edges light = at.behind(x -> x.thing(made, 0));
                Edges heavy = at.behind(x -> x.thing(made, 1000));
                told("SORT " + sort + " of LOAD 0 ASKED " + ask, OF_LOAD_0[sort][ask], light, x -> x.says(THINGS, of));
                told("SORT " + sort + " of LOAD 1000 ASKED " + ask, OF_LOAD_1000[sort][ask], heavy, x -> x.says(THINGS, of));
            }
        }
    }

    private static void rack() {
        for (int built : new int[] {-1, 10, MIN, MAX}) {
            at.outside("rack: built for " + built, x -> x.rack(built, 1));
            at.outside("rack: OUTSIDE ahead of SIZE", x -> x.rack(built, -1));
        }
        at.outside("rack: 17 places", x -> x.rack(0, 17));
        at.outside("rack: most places", x -> x.rack(0, MAX));
        at.fails("rack: -1 places", SIZE, x -> x.rack(0, -1));
        at.fails("rack: least places", SIZE, x -> x.rack(9, MIN));
        for (int built = 0; built <= 9; built++) {
            int of = built;
            ReservoirWall x = at.does("rack: built for " + built, RACKS, y -> y.rack(of, 16));
            due.is("bare at first", x.hung(RACKS, 0), NONE);
            due.is("bare at first", x.hung(RACKS, 15), NONE);
            due.is("no 17th place", x.hung(RACKS, 16), FAILED - INDEX);
            due.is("one more", x.about(5), RACKS + 1);
        }
        ReservoirWall x = at.does("rack: no places", RACKS, y -> y.rack(9, 0));
        due.is("no place", x.hung(RACKS, 0), FAILED - INDEX);
        x = at.behind(y -> racks(y, 19)).does("rack: the 20th", 19, y -> y.rack(0, 1));
        due.is("20 RACKS", x.about(5), 20);
        fullOfRacks.full("rack: the 21st", y -> y.rack(0, 1));
        fullOfRacks.full("rack: FULL ahead of SIZE", y -> y.rack(0, -1));
        fullOfRacks.outside("rack: OUTSIDE ahead of FULL", y -> y.rack(0, 17));
        fullOfRacks.outside("rack: OUTSIDE ahead of FULL", y -> y.rack(10, 1));
    }

    /** Who may hang on what is built for 0 .. 9, by SORTS 0 .. 5. */
    private static final String[] BUILT_FOR = {"110000", "010000", "001100", "000100", "000011", "000001", "110000", "001111", "010101", "111111"};

    private static boolean fits(int sort, int built) {
        return BUILT_FOR[built].charAt(sort) == '1';
    }

    private static void hangAndDown() {
        for (int rack : new int[] {-2, MIN, RACKS, MAX}) {
            at.unknown("hang: RACK " + rack, x -> x.hang(rack, 0, 0));
            at.unknown("hang: UNKNOWN RACK ahead of INDEX", x -> x.hang(rack, -1, 0));
            at.unknown("down: RACK " + rack, x -> x.down(rack, 0, 9));
            at.unknown("down: UNKNOWN ahead of OUTSIDE", x -> x.down(rack, 0, 10));
            at.unknown("hung: RACK " + rack, x -> x.hung(rack, 0));
            at.unknown("asked: RACK " + rack, x -> x.asked(rack, 0, 0));
            at.unknown("asked: UNKNOWN ahead of OUTSIDE", x -> x.asked(rack, 0, 6));
        }
        for (int thing : new int[] {-2, MIN, THINGS, MAX}) {
            at.unknown("hang: THING " + thing, x -> x.hang(0, 0, thing));
            at.unknown("hang: UNKNOWN THING ahead of NULL", x -> x.hang(NONE, 0, thing));
            at.unknown("hang: UNKNOWN THING ahead of INDEX", x -> x.hang(0, 6, thing));
        }
        for (int as : new int[] {-1, 10, MIN, MAX}) {
            at.outside("down: taken for " + as, x -> x.down(0, 0, as));
            at.outside("down: OUTSIDE ahead of NULL", x -> x.down(NONE, 0, as));
            at.outside("down: OUTSIDE ahead of INDEX", x -> x.down(0, 6, as));
        }
        at.fails("hang: RACK NONE", NULL, x -> x.hang(NONE, 0, 0));
        at.fails("hang: NULL ahead of INDEX", NULL, x -> x.hang(NONE, -1, 0));
        at.fails("down: RACK NONE", NULL, x -> x.down(NONE, 0, 9));
        at.fails("down: NULL ahead of INDEX", NULL, x -> x.down(NONE, -1, 9));
        at.fails("hung: RACK NONE", NULL, x -> x.hung(NONE, -1));
        for (int i : new int[] {-1, 6, MIN, MAX}) {
            at.fails("hang: place " + i, INDEX, x -> x.hang(0, i, 0));
            at.fails("hang: nothing at place " + i, INDEX, x -> x.hang(0, i, NONE));
            at.fails("hang: INDEX ahead of STORE", INDEX, x -> x.hang(1, i, FLAP));
            at.fails("down: place " + i, INDEX, x -> x.down(0, i, 9));
            at.fails("hung: place " + i, INDEX, x -> x.hung(0, i));
        }
        for (int built = 0; built <= 9; built++) {
            int of = built;
            Edges bare = at.behind(x -> x.rack(of, 2));
            for (int sort = 0; sort < THINGS; sort++) {
                int thing = sort;
                if (fits(sort, built)) {
                    ReservoirWall x = bare.does("hang: SORT " + sort + " on what is built for " + built, 1, y -> y.hang(RACKS, 1, thing));
                    due.is("it hangs", x.hung(RACKS, 1), sort);
                    due.is("not beside", x.hung(RACKS, 0), NONE);
                    due.is("it hangs where it hung, too", x.hung(0, sort), sort);
                    x = at.does("down: SORT " + sort + " taken for " + built, sort, y -> y.down(0, thing, of));
                    due.is("the place is bare", x.hung(0, sort), NONE);
                } else {
                    bare.fails("hang: SORT " + sort + " on what is built for " + built, STORE, y -> y.hang(RACKS, 1, thing));
                    at.fails("down: SORT " + sort + " taken for " + built, CAST, y -> y.down(0, thing, of));
                }
            }
            bare.does("hang: nothing on what is built for " + built, 1, x -> x.hang(RACKS, 0, NONE));
            at.asks("down: bare, taken for " + built, NONE, x -> x.down(1, 5, of));
        }
        ReservoirWall x = at.does("hang: nothing where something is", 1, y -> y.hang(0, 5, NONE));
        due.is("bare", x.hung(0, 5), NONE);
        x = at.does("hang: another", 1, y -> y.hang(0, 0, 5));
        due.is("it hangs", x.hung(0, 0), 5);
        at.asks("hung: the first place", 0, y -> y.hung(0, 0));
        at.asks("hung: the last place", 5, y -> y.hung(0, 5));
        at.asks("hung: bare", NONE, y -> y.hung(1, 5));
    }

    private static void asked() {
        for (int ask : new int[] {-1, 6, MIN, MAX}) {
            at.outside("asked: ASKED " + ask, x -> x.asked(0, 0, ask));
            at.outside("asked: OUTSIDE ahead of NULL", x -> x.asked(NONE, 0, ask));
            at.outside("asked: OUTSIDE ahead of INDEX", x -> x.asked(0, 6, ask));
        }
        at.fails("asked: RACK NONE", NULL, x -> x.asked(NONE, 0, 0));
        at.fails("asked: NULL ahead of INDEX", NULL, x -> x.asked(NONE, -1, 0));
        at.fails("asked: a bare place", NULL, x -> x.asked(1, 5, 0));
        at.fails("asked: a bare place, for a FACE", NULL, x -> x.asked(1, 5, 4));
        for (int i : new int[] {-1, 6, MIN, MAX}) {
            at.fails("asked: place " + i, INDEX, x -> x.asked(0, i, 0));
        }
        // LOADS are 10 + SORT.
        int[][] want = {{11, 10, 120, CAST, CAST, 11000}, {12, 18, 54, CAST, 324, 12000}, {21, 12, CAST, 81, CAST, 21000},
            {21, 13, CAST, 186, 169, 21000}, {31, 14, CAST, 101, CAST, 31000}, {32, 30, CAST, 182, 868, 32000}};
        for (int sort = 0; sort < THINGS; sort++) {
            for (int ask = 0; ask <= 5; ask++) {
                int place = sort;
                int of = ask;
                told("asked: SORT " + sort + " ASKED " + ask, want[sort][ask], at, x -> x.asked(0, place, of));
            }
        }
    }

    private static void haul() {
        for (int rack : new int[] {-2, MIN, RACKS, MAX}) {
            at.unknown("haul: from " + rack, x -> x.haul(rack, 0, 0, 0, 1));
            at.unknown("haul: to " + rack, x -> x.haul(0, 0, rack, 0, 1));
            at.unknown("haul: UNKNOWN ahead of NULL", x -> x.haul(NONE, 0, rack, 0, 1));
            at.unknown("haul: UNKNOWN ahead of NULL", x -> x.haul(rack, 0, NONE, 0, 1));
        }
        at.fails("haul: from NONE", NULL, x -> x.haul(NONE, 0, 0, 0, 1));
        at.fails("haul: to NONE", NULL, x -> x.haul(0, 0, NONE, 0, 1));
        at.fails("haul: NULL ahead of INDEX", NULL, x -> x.haul(0, -1, NONE, 0, 1));
        // RACK 0 has 6 places, RACK 2 has 3 and is built for READS.
        at.fails("haul: n -1", INDEX, x -> x.haul(0, 1, 2, 1, -1));
        at.fails("haul: n least", INDEX, x -> x.haul(0, 0, 2, 0, MIN));
        at.fails("haul: n greatest", INDEX, x -> x.haul(0, 0, 2, 0, MAX));
        at.fails("haul: i -1", INDEX, x -> x.haul(0, -1, 2, 0, 1));
        at.fails("haul: k -1", INDEX, x -> x.haul(0, 0, 2, -1, 1));
        at.fails("haul: i -1, n 0", INDEX, x -> x.haul(0, -1, 2, 0, 0));
        at.fails("haul: k -1, n 0", INDEX, x -> x.haul(0, 0, 2, -1, 0));
        at.fails("haul: one too many of the first", INDEX, x -> x.haul(0, 5, 2, 0, 2));
        at.fails("haul: one too many for the second", INDEX, x -> x.haul(0, 0, 2, 2, 2));
        at.fails("haul: i and n go round", INDEX, x -> x.haul(0, 5, 2, 0, MAX));
        at.fails("haul: i greatest", INDEX, x -> x.haul(0, MAX, 2, 0, 1));
        at.fails("haul: k greatest", INDEX, x -> x.haul(0, 0, 2, MAX, 1));
        at.fails("haul: INDEX ahead of STORE, nothing is done", INDEX, x -> x.haul(0, 0, 2, 0, 4));
        at.asks("haul: n 0 at both ends", 0, x -> x.haul(0, 6, 2, 3, 0));
        at.asks("haul: n 0 at both beginnings", 0, x -> x.haul(0, 0, 2, 0, 0));
        at.fails("haul: n 0, i beyond the end", INDEX, x -> x.haul(0, 7, 2, 3, 0));
        at.fails("haul: n 0, k beyond the end", INDEX, x -> x.haul(0, 6, 2, 4, 0));
        at.behind(x -> x.rack(9, 0)).asks("haul: n 0 of no places", 0, x -> x.haul(RACKS, 0, RACKS, 0, 0));
        at.behind(x -> x.rack(9, 0)).fails("haul: n 1 of no places", INDEX, x -> x.haul(RACKS, 0, 0, 0, 1));

        ReservoirWall x = at.does("haul: as many as fit", 2, y -> y.haul(0, 0, 2, 1, 2));
        due.is("bare as before", x.hung(2, 0), NONE);
        due.is("it hangs", x.hung(2, 1), FLOAT);
        due.is("it hangs", x.hung(2, 2), WIRE);
        due.is("there, too", x.hung(0, 1), WIRE);
        x = at.does("haul: bare ones count", 3, y -> y.haul(1, 2, 2, 0, 3));
        due.is("bare", x.hung(2, 0), NONE);
        due.is("hangs", x.hung(2, 1), WIRE);
        x = at.behind(y -> y.hang(2, 0, FLOAT)).does("haul: a bare one takes the place", 1, y -> y.haul(1, 5, 2, 0, 1));
        due.is("bare now", x.hung(2, 0), NONE);
        stored(0, y -> y.haul(0, 2, 2, 0, 1), NONE, NONE, NONE);
        stored(0, y -> y.haul(0, 2, 2, 0, 3), NONE, NONE, NONE);
        stored(1, y -> y.haul(0, 1, 2, 0, 2), WIRE, NONE, NONE);
        stored(2, y -> y.haul(0, 0, 2, 0, 3), FLOAT, WIRE, NONE);
        stored(1, y -> y.haul(0, 1, 2, 1, 2), NONE, WIRE, NONE);
        stored(2, y -> {
            y.hang(0, 0, NONE);
            return y.haul(0, 0, 2, 0, 3);
        }, NONE, WIRE, NONE);
        x = at.does("haul: up on one RACK", 5, y -> y.haul(0, 0, 0, 1, 5));
        due.is("each what was there before", x.hung(0, 0) * 100000 + x.hung(0, 1) * 10000 + x.hung(0, 4) * 10 + x.hung(0, 5), 34);
        x = at.does("haul: down on one RACK", 5, y -> y.haul(0, 1, 0, 0, 5));
        due.is("each what was there before", x.hung(0, 0) * 1000 + x.hung(0, 3) * 100 + x.hung(0, 4) * 10 + x.hung(0, 5), 1455);
        at.asks("haul: onto itself", 6, y -> y.haul(0, 0, 0, 0, 6));
        for (int i = 0; i <= 6; i++) {
            for (int k = 0; k <= 6; k++) {
                for (int n = 0; n <= 6; n++) {
                    hauledOnOneRack(i, k, n);
                }
            }
        }
    }

    /** RACK 0 has THING g at place g. */
    private static void hauledOnOneRack(int i, int k, int n) {
        ReservoirWall x = new ReservoirWall();
        UsedWall.build(x);
        boolean fits = i + n <= 6 && k + n <= 6;
        String call = "haul(0, " + i + ", 0, " + k + ", " + n + ")";
        due.is(call, x.haul(0, i, 0, k, n), fits ? n : FAILED - INDEX);
        due.is("raised(0) behind " + call, x.raised(0), fits ? 0 : INDEX);
        due.is("raised(1) behind " + call, x.raised(1), 0);
        for (int at = 0; at < 6; at++) {
            due.is("place " + at + " behind " + call, x.hung(0, at), fits && at >= k && at < k + n ? at - k + i : at);
        }
    }

    /** STORE on RACK 2: those ahead hang there; raised(1) tells how many. */
    private static void stored(int hang, ToLongFunction<ReservoirWall> on, int... hung) {
        ReservoirWall x = new ReservoirWall();
        UsedWall.build(x);
        due.is("haul: STORE", on.applyAsLong(x), FAILED - STORE);
        due.is("raised(0)", x.raised(0), STORE);
        due.is("raised(1)", x.raised(1), hang);
        for (int i = 0; i < hung.length; i++) {
            due.is("place " + i + " behind STORE", x.hung(2, i), hung[i]);
        }
        due.is("raised(1) of another call", x.raised(1), 0);
    }

    private static void box() {
        for (int box : new int[] {-1, 10, MIN, MAX}) {
            at.unknown("box: BOX " + box, x -> x.box(box, 0, 0));
            at.unknown("box: UNKNOWN BOX ahead of OUTSIDE", x -> x.box(box, 5, 0));
            at.unknown("isA: BOX " + box, x -> x.isA(box, 0));
            at.unknown("isA: UNKNOWN ahead of OUTSIDE", x -> x.isA(box, 14));
            at.unknown("taken: BOX " + box, x -> x.taken(box, 0));
            at.unknown("taken: UNKNOWN ahead of OUTSIDE", x -> x.taken(box, 14));
            at.unknown("used: BOX " + box, x -> x.used(box));
        }
        for (int what : new int[] {-1, 5, MIN, MAX}) {
            at.outside("box: what " + what, x -> x.box(0, what, 0));
            at.outside("box: OUTSIDE ahead of UNKNOWN", x -> x.box(0, what, -1));
        }
        for (int kind : new int[] {-1, 14, MIN, MAX}) {
            at.outside("isA: kind " + kind, x -> x.isA(0, kind));
            at.outside("isA: kind " + kind + " of nothing", x -> x.isA(9, kind));
            at.outside("taken: kind " + kind, x -> x.taken(0, kind));
            at.outside("taken: kind " + kind + " of nothing", x -> x.taken(9, kind));
        }
        int[] there = {0, 11, THINGS, RACKS, 3};
        for (int what = 1; what <= 4; what++) {
            int of = what;
            for (int number : new int[] {-1, -2, MIN, there[what], MAX}) {
                at.unknown("box: what " + what + ", number " + number, x -> x.box(0, of, number));
            }
            for (int number : new int[] {0, there[what] - 1}) {
                for (int box : new int[] {0, 9}) {
                    at.sets("box: what " + what + ", number " + number, 1, x -> x.box(box, of, number));
                }
            }
        }
        for (int number : new int[] {-1, MIN, MAX}) {
            ReservoirWall x = at.sets("box: nothing, number not looked at", 1, y -> y.box(1, 0, number));
            due.is("nothing is in it", x.used(1), FAILED - NULL);
        }
        at.fails("used: nothing", NULL, x -> x.used(4));
        at.fails("used: nothing in the last BOX", NULL, x -> x.used(9));
        at.asks("used: cells", 3, x -> x.used(0));
        at.asks("used: a THING's WEIGHT", 18, x -> x.used(1));
        at.asks("used: places", 6, x -> x.used(2));
        at.asks("used: STRIPS", 2, x -> x.used(3));
        at.behind(x -> x.box(9, 1, 8)).asks("used: no cells", 0, x -> x.used(9));
        at.behind(x -> x.bed(1, 0, 1)).behind(x -> x.box(9, 4, 3)).asks("used: no STRIPS", 0, x -> x.used(9));
        at.behind(x -> x.rack(1, 0)).behind(x -> x.box(9, 3, RACKS)).asks("used: no places", 0, x -> x.used(9));
    }

    /** What a BOX holds is of these kinds alone, and taken for one of them it is told as here. */
    private static void holds(String what, Edges of, int told, int... kinds) {
        for (int kind = 0; kind <= 13; kind++) {
            int as = kind;
            boolean is = false;
            for (int k : kinds) {
                is |= k == kind;
            }
            of.tells("isA: " + what + ", kind " + kind, is ? 1 : 0, x -> x.isA(5, as));
            if (is) {
                of.asks("taken: " + what + ", kind " + kind, told, x -> x.taken(5, as));
            } else {
                of.fails("taken: " + what + ", kind " + kind, CAST, x -> x.taken(5, as));
            }
        }
    }

    private static void boxes() {
        for (int kind = 0; kind <= 7; kind++) {
            int row = kind;
            holds("ROW of KIND " + kind, at.behind(x -> x.box(5, 1, row)), 3, kind);
        }
        holds("ROW without cells", at.behind(x -> x.box(5, 1, 8)), 0, 1);
        int[][] ofSorts = {{8, 9}, {8, 9, 10}, {8}, {8}, {8}, {8}};
        for (int sort = 0; sort < THINGS; sort++) {
            int thing = sort;
            holds("THING of SORT " + sort, at.behind(x -> x.box(5, 2, thing)), sort, ofSorts[sort]);
        }
        int[][] ofBuilt = {{11, 12}, {11, 12}, {}, {}, {}, {}, {11}, {}, {}, {}};
        for (int built = 0; built <= 9; built++) {
            int of = built;
            holds("RACK built for " + built, at.behind(x -> {
                x.rack(of, 4);
                x.box(5, 3, RACKS);
            }), 4, ofBuilt[built]);
        }
        holds("BED of ints", at.behind(x -> x.box(5, 4, 0)), 2, 13);
        holds("BED of doubles", at.behind(x -> x.box(5, 4, 1)), 3);
        holds("BED of truths", at.behind(x -> x.box(5, 4, 2)), 1);
        for (int kind = 0; kind <= 13; kind++) {
            int as = kind;
            at.tells("isA: nothing, kind " + kind, 0, x -> x.isA(9, as));
            at.asks("taken: nothing, for " + kind, NONE, x -> x.taken(9, as));
            at.behind(x -> x.box(0, 0, 0)).asks("taken: nothing again, for " + kind, NONE, x -> x.taken(0, as));
        }
    }

    private static void card() {
        ReservoirWall x = at.sets("card", CARDS, y -> y.card());
        for (int f = 0; f <= 7; f++) {
            due.is("at first 0", x.fieldOf(CARDS, f), 0);
        }
        due.is("no next at first", x.along(CARDS, 1), NONE);
        due.is("no THING at first", x.cardAsk(CARDS, 0), FAILED - NULL);
        x = at.behind(y -> cards(y, 19)).sets("card: the 20th", 19, y -> y.card());
        due.is("20 CARDS", x.about(6), 20);
        fullOfCards.full("card: the 21st", y -> y.card());
        fullOfCards.full("copy: the 21st", y -> y.copy(0));
        fullOfCards.fails("copy: NULL ahead of FULL", NULL, y -> y.copy(NONE));
        fullOfCards.unknown("copy: UNKNOWN ahead of FULL", y -> y.copy(20));
        at.behind(y -> cards(y, 19)).does("copy: the 20th", 19, y -> y.copy(0));
        for (int number : new int[] {-2, MIN, CARDS, MAX}) {
            at.unknown("copy: CARD " + number, y -> y.copy(number));
        }
        at.fails("copy: NONE", NULL, y -> y.copy(NONE));
        x = at.does("copy", CARDS, y -> y.copy(0));
        due.is("the same field", x.fieldOf(CARDS, 0), 70);
        due.is("the same field", x.fieldOf(CARDS, 7), 1);
        due.is("the same next", x.along(CARDS, 1), 1);
        due.is("the same THING", x.cardAsk(CARDS, 0), 32);
        x.field(CARDS, 0, 1);
        x.link(CARDS, NONE, NONE);
        due.is("the first has its own fields", x.fieldOf(0, 0), 70);
        due.is("the first has its own next", x.along(0, 1), 1);
    }

    private interface OfField {
        long on(ReservoirWall x, int card, int f);
    }

    private static void fieldEdges(String name, OfField call) {
        for (int card : new int[] {-2, MIN, CARDS, MAX}) {
            at.unknown(name + ": CARD " + card, x -> call.on(x, card, 0));
            at.unknown(name + ": UNKNOWN ahead of OUTSIDE", x -> call.on(x, card, 8));
        }
        fullOfCards.unknown(name + ": CARD 20", x -> call.on(x, 20, 0));
        for (int f : new int[] {-1, 8, MIN, MAX}) {
            at.outside(name + ": field " + f, x -> call.on(x, 0, f));
            at.outside(name + ": OUTSIDE ahead of NULL", x -> call.on(x, NONE, f));
        }
        for (int f = 0; f <= 7; f++) {
            int of = f;
            at.fails(name + ": CARD NONE", NULL, x -> call.on(x, NONE, of));
        }
    }

    /** A WHOLE comes into a field; then it becomes more by 1. */
    private static void comes(int f, long v, long told, long more) {
        ReservoirWall x = at.does("field " + f + ": " + v, 1, y -> y.field(1, f, v));
        due.is("field " + f + " told", x.fieldOf(1, f), told);
        due.is("raiseField before", x.raiseField(1, f, 1, true), told);
        due.is("raiseField became", x.fieldOf(1, f), more);
        x.field(1, f, v);
        due.is("raiseField behind", x.raiseField(1, f, 1, false), more);
    }

    private static void fields() {
        fieldEdges("field", (x, card, f) -> x.field(card, f, 12345));
        fieldEdges("fieldOf", (x, card, f) -> x.fieldOf(card, f));
        fieldEdges("raiseField", (x, card, f) -> x.raiseField(card, f, 1, false));
        fieldEdges("raiseField before", (x, card, f) -> x.raiseField(card, f, 1, true));
        comes(0, 127, 127, -128);
        comes(0, 128, -128, -127);
        comes(0, -129, 127, -128);
        comes(1, 32767, 32767, -32768);
        comes(1, 32768, -32768, -32767);
        comes(1, -32769, 32767, -32768);
        comes(2, 65535, 65535, 0);
        comes(2, 65536, 0, 1);
        comes(2, -1, 65535, 0);
        comes(3, 2147483647L, 2147483647L, -2147483648L);
        comes(3, 2147483648L, -2147483648L, -2147483647L);
        comes(4, Long.MAX_VALUE, Long.MAX_VALUE, Long.MIN_VALUE);
        comes(4, Long.MIN_VALUE, Long.MIN_VALUE, Long.MIN_VALUE + 1);
        comes(5, 16777216, 16777216, 16777216);
        comes(5, 16777217, 16777216, 16777216);
        comes(5, 16777215, 16777215, 16777216);
        comes(6, 9007199254740992L, 9007199254740992L, 9007199254740992L);
        comes(6, 9007199254740993L, 9007199254740992L, 9007199254740992L);
        comes(6, 9007199254740991L, 9007199254740991L, 9007199254740992L);
        comes(7, 0, 0, 1);
        comes(7, 1, 1, 0);
        comes(7, 2, 1, 0);
        comes(7, Long.MIN_VALUE, 1, 0);
        ReservoirWall x = at.does("raiseField of a truth by an even number", 1, y -> y.raiseField(0, 7, 4, false));
        due.is("it stays", x.fieldOf(0, 7), 1);
    }

    private static void linkAndAlong() {
        for (int card : new int[] {-2, MIN, CARDS, MAX}) {
            at.unknown("link: CARD " + card, x -> x.link(card, 0, 0));
            at.unknown("link: next " + card, x -> x.link(0, card, 0));
            at.unknown("link: UNKNOWN next ahead of NULL", x -> x.link(NONE, card, 0));
            at.unknown("along: CARD " + card, x -> x.along(card, 0));
            at.unknown("along: UNKNOWN ahead of OUTSIDE", x -> x.along(card, 101));
            at.unknown("ring: CARD " + card, x -> x.ring(card));
            at.unknown("cardAsk: CARD " + card, x -> x.cardAsk(card, 0));
            at.unknown("cardAsk: UNKNOWN ahead of OUTSIDE", x -> x.cardAsk(card, 6));
        }
        for (int thing : new int[] {-2, MIN, THINGS, MAX}) {
            at.unknown("link: THING " + thing, x -> x.link(0, 0, thing));
            at.unknown("link: UNKNOWN THING ahead of NULL", x -> x.link(NONE, 0, thing));
        }
        at.fails("link: CARD NONE", NULL, x -> x.link(NONE, 0, 0));
        at.fails("link: all NONE", NULL, x -> x.link(NONE, NONE, NONE));
        ReservoirWall x = at.does("link: to none", 1, y -> y.link(0, NONE, NONE));
        due.is("it ends", x.along(0, 1), NONE);
        due.is("no THING", x.cardAsk(0, 0), FAILED - NULL);
        x = at.does("link: to itself", 1, y -> y.link(2, 2, THINGS - 1));
        due.is("it comes next", x.along(2, 1), 2);

        for (int n : new int[] {-1, 101, MIN, MAX}) {
            at.outside("along: " + n, y -> y.along(0, n));
            at.outside("along: OUTSIDE ahead of NULL", y -> y.along(NONE, n));
        }
        at.fails("along: NONE", NULL, y -> y.along(NONE, 0));
        at.asks("along: 0", 0, y -> y.along(0, 0));
        at.asks("along: 1", 1, y -> y.along(0, 1));
        at.asks("along: 100, round and round", 1, y -> y.along(0, 100));
        Edges chain = at.behind(y -> {
            cards(y, 20);
            for (int card = 0; card < 19; card++) {
                y.link(card, card + 1, NONE);
            }
        });
        chain.asks("along: the last of 20", 19, y -> y.along(0, 19));
        chain.asks("along: one beyond", NONE, y -> y.along(0, 20));
        chain.asks("along: far beyond", NONE, y -> y.along(0, 100));
        chain.asks("along: 0 of the last", 19, y -> y.along(19, 0));
        chain.asks("along: 1 of the last", NONE, y -> y.along(19, 1));

        at.fails("ring: NONE", NULL, y -> y.ring(NONE));
        chain.asks("ring: it ends", NONE, y -> y.ring(0));
        chain.asks("ring: the last alone", NONE, y -> y.ring(19));
        at.asks("ring: from its first", 0, y -> y.ring(0));
        at.asks("ring: from within", 2, y -> y.ring(2));
        chain.behind(y -> y.link(19, 19, NONE)).asks("ring: the last onto itself", 19, y -> y.ring(0));
        chain.behind(y -> y.link(19, 0, NONE)).asks("ring: all 20", 0, y -> y.ring(0));
        chain.behind(y -> y.link(19, 0, NONE)).asks("ring: all 20, from the last", 19, y -> y.ring(19));
        chain.behind(y -> y.link(19, 18, NONE)).asks("ring: the last two", 18, y -> y.ring(0));
        chain.behind(y -> y.link(10, 10, NONE)).asks("ring: behind the ring it ends", NONE, y -> y.ring(11));
    }

    private static void cardAsk() {
        for (int ask : new int[] {-1, 6, MIN, MAX}) {
            at.outside("cardAsk: ASKED " + ask, x -> x.cardAsk(0, ask));
            at.outside("cardAsk: OUTSIDE ahead of NULL", x -> x.cardAsk(NONE, ask));
            at.outside("cardAsk: OUTSIDE ahead of NULL", x -> x.cardAsk(1, ask));
        }
        int[] ofStone = {32, 30, CAST, 182, 868, 32000};
        for (int ask = 0; ask <= 5; ask++) {
            int of = ask;
            at.fails("cardAsk: CARD NONE", NULL, x -> x.cardAsk(NONE, of));
            at.fails("cardAsk: no THING", NULL, x -> x.cardAsk(1, of));
            told("cardAsk: ASKED " + ask, ofStone[ask], at, x -> x.cardAsk(0, of));
        }
    }

    public static void main(String[] args) {
        thing();
        says();
        rack();
        hangAndDown();
        asked();
        haul();
        box();
        boxes();
        card();
        fields();
        linkAndAlong();
        cardAsk();
        due.end();
    }
}
