/** The edges of part 4 and of promises 50 to 61. */
public final class LakeEdgesTest {
    private static final int INDEX = Edges.INDEX;
    private static final int NONE = ReservoirWall.NONE;
    private static final int MIN = Integer.MIN_VALUE, MAX = Integer.MAX_VALUE;
    private static final long NO_NUMBER = 0x7FF8000000000000L;
    private static final long[] NO_NUMBERS = {NO_NUMBER, 0x7FF0000000000001L, 0xFFF0000000000001L, -1L};
    private static final double UP = Double.POSITIVE_INFINITY, BELOW = Double.NEGATIVE_INFINITY;
    private static final double BIT = Double.MIN_VALUE;
    private static final int VOLUME = 0, LEVEL = 1, TOLD = 2, GROUND = 3, SNOW = 4, INFLOW = 5, OUT = 6, SPILL = 7, LACK = 8, RATE = 9, OPENING = 10;
    private static final int HEARD = 0, SILENT = 1, HANGS = 2, JUMPS = 3;

    private static final Due due = new Due("LakeEdgesTest");
    private static final Edges at = new Edges(due, UsedWall::build);

    private static long bits(double d) {
        return Double.doubleToRawLongBits(d);
    }

    private static double real(long bits) {
        return Double.longBitsToDouble(bits);
    }

    private static double line(int k) {
        return 1000.0 * k * k + 2000.0 * k;
    }

    private static double level(double volume) {
        int k = 39;
        while (line(k) > volume) {
            k--;
        }
        return k + (volume - line(k)) / (line(k + 1) - line(k));
    }

    private static void table() {
        for (int k : new int[] {-1, 41, MIN, MAX}) {
            at.fails("table: " + k, INDEX, x -> x.table(k));
        }
        at.asks("table: 0", 0, x -> x.table(0));
        at.asks("table: 1", 3000, x -> x.table(1));
        at.asks("table: 39", 1599000, x -> x.table(39));
        at.asks("table: 40", 1680000, x -> x.table(40));
    }

    private static void turned() {
        for (double d : new double[] {-BIT, -1.0, Math.nextUp(1680000.0), 1680001.0, UP, BELOW, Double.MAX_VALUE, -Double.MAX_VALUE}) {
            at.outside("turned: " + d, x -> x.turned(bits(d)));
        }
        for (long none : NO_NUMBERS) {
            at.outside("turned: NO NUMBER", x -> x.turned(none));
        }
        at.tells("turned: 0.0", bits(0.0), x -> x.turned(bits(0.0)));
        at.tells("turned: -0.0", bits(0.0), x -> x.turned(bits(-0.0)));
        at.tells("turned: the least", bits(0.0 + BIT / 3000.0), x -> x.turned(bits(BIT)));
        at.tells("turned: T(40)", bits(40.0), x -> x.turned(bits(1680000.0)));
        double last = Math.nextDown(1680000.0);
        at.tells("turned: just below T(40)", bits(39.0 + (last - 1599000.0) / 81000.0), x -> x.turned(bits(last)));
        for (int k = 1; k <= 39; k++) {
            double here = line(k);
            double ahead = Math.nextDown(here);
            double behind = Math.nextUp(here);
            double below = k - 1 + (ahead - line(k - 1)) / (here - line(k - 1));
            double above = k + (behind - here) / (line(k + 1) - here);
            at.tells("turned: T(" + k + ")", bits(k), x -> x.turned(bits(here)));
            at.tells("turned: just below T(" + k + ")", bits(below), x -> x.turned(bits(ahead)));
            at.tells("turned: just above T(" + k + ")", bits(above), x -> x.turned(bits(behind)));
        }
    }

    private static void readingAndWord() {
        for (int gauge : new int[] {-1, 6, MIN, MAX}) {
            at.unknown("reading: GAUGE " + gauge, x -> x.reading(gauge, bits(9.0)));
            at.unknown("reading: UNKNOWN ahead of OUTSIDE", x -> x.reading(gauge, bits(2000.0)));
            at.unknown("reading: none of GAUGE " + gauge, x -> x.reading(gauge, NO_NUMBER));
            at.unknown("heard: GAUGE " + gauge, x -> x.heard(gauge));
        }
        for (double d : new double[] {Math.nextUp(1000.0), Math.nextDown(-1000.0), 1001.0, -1001.0, UP, BELOW}) {
            at.outside("reading: " + d, x -> x.reading(0, bits(d)));
            at.outside("reading: " + d, x -> x.reading(5, bits(d)));
        }
        for (double d : new double[] {1000.0, -1000.0, Math.nextDown(1000.0), 0.0, -0.0, BIT}) {
            for (int gauge : new int[] {0, 5}) {
                ReservoirWall x = new ReservoirWall();
                due.is("reading: " + d, x.reading(gauge, bits(d)), 1);
                x.run(0, 0);
                due.real("it is told", x.lake(TOLD), d);
                due.is("it is heard", x.heard(gauge), HEARD);
                at.sets("reading: " + d, 1, y -> y.reading(gauge, bits(d)));
            }
        }
        for (long none : NO_NUMBERS) {
            ReservoirWall x = at.sets("reading: none", 1, y -> y.reading(3, none));
            x.run(0, 0);
            due.is("no READING", x.heard(3), SILENT);
            due.is("that of another stays", x.heard(0), HANGS);
            x = at.sets("word: none", 1, y -> y.word(none));
            x.run(0, 0);
            due.real("THE VOICE stands again", x.lake(TOLD), 8.75);
        }
        for (double d : new double[] {-BIT, -1.0, Math.nextUp(100.0), 101.0, UP, BELOW}) {
            at.outside("word: " + d, x -> x.word(bits(d)));
        }
        for (double d : new double[] {0.0, -0.0, BIT, 100.0, Math.nextDown(100.0)}) {
            ReservoirWall x = at.sets("word: " + d, 1, y -> y.word(bits(d)));
            x.run(0, 0);
            due.real("it stands in place of THE VOICE", x.lake(TOLD), d);
            due.is("heard", x.about(1), 0);
            x.run(0, 0);
            due.is("for one STEP alone", x.about(1), 1);
        }
    }

    private static void stuckHandRate() {
        for (int gate : new int[] {-1, 4, MIN, MAX}) {
            at.unknown("stuck: GATE " + gate, x -> x.stuck(gate, true));
            at.unknown("stuck: GATE " + gate + ", not", x -> x.stuck(gate, false));
            at.unknown("hand: GATE " + gate, x -> x.hand(gate, bits(0.5)));
            at.unknown("hand: UNKNOWN ahead of OUTSIDE", x -> x.hand(gate, bits(2.0)));
            at.unknown("hand: given back, GATE " + gate, x -> x.hand(gate, NO_NUMBER));
            at.unknown("moved: GATE " + gate, x -> x.moved(gate, 0));
            at.unknown("moved: UNKNOWN ahead of OUTSIDE", x -> x.moved(gate, 3));
        }
        for (int what : new int[] {-1, 3, MIN, MAX}) {
            at.outside("moved: what " + what, x -> x.moved(0, what));
        }
        at.sets("stuck: it was not", 0, x -> x.stuck(0, true));
        at.tells("stuck: it was", 1, x -> x.stuck(1, true));
        at.sets("stuck: it was, not any more", 1, x -> x.stuck(1, false));
        at.tells("stuck: it was not, and is not", 0, x -> x.stuck(3, false));
        at.tells("moved: STUCK", 1, x -> x.moved(1, 1));
        at.tells("moved: not STUCK", 0, x -> x.moved(2, 1));
        at.tells("moved: a HAND", 1, x -> x.moved(2, 2));
        at.tells("moved: no HAND", 0, x -> x.moved(1, 2));
        for (double d : new double[] {-BIT, -0.5, Math.nextUp(1.0), 1.5, UP, BELOW}) {
            at.outside("hand: " + d, x -> x.hand(0, bits(d)));
            at.outside("hand: " + d + " where there is one", x -> x.hand(2, bits(d)));
            at.outside("rate: " + d, x -> x.rate(bits(d)));
        }
        for (long none : NO_NUMBERS) {
            at.outside("rate: NO NUMBER", x -> x.rate(none));
            ReservoirWall x = at.sets("hand: given back", 1, y -> y.hand(2, none));
            due.is("no HAND", x.moved(2, 2), 0);
            at.tells("hand: given back where there is none", 1, y -> y.hand(3, none));
        }
        for (double d : new double[] {0.0, -0.0, BIT, 0.5, Math.nextDown(1.0), 1.0}) {
            ReservoirWall x = at.sets("hand: " + d, 1, y -> y.hand(3, bits(d)));
            due.is("a HAND", x.moved(3, 2), 1);
            double before = real(x.lake(OPENING + 3));
            due.real("not ahead of the next STEP", x.lake(OPENING + 3), before);
            x.run(0, 0);
            due.real("at the next STEP", x.lake(OPENING + 3), d);
            x.run(0, 0);
            due.real("from then on", x.lake(OPENING + 3), d);
            x = at.sets("rate: " + d, 1, y -> y.rate(bits(d)));
            due.real("RATE", x.lake(RATE), d);
        }
    }

    private static void runAndLake() {
        for (double d : new double[] {-BIT, -1.0, Math.nextUp(1000000.0), 1000001.0, UP, BELOW}) {
            at.outside("run: RAIN " + d, x -> x.run(bits(d), 0));
        }
        for (double d : new double[] {Math.nextDown(-100.0), Math.nextUp(100.0), 101.0, UP, BELOW}) {
            at.outside("run: WARMTH " + d, x -> x.run(0, bits(d)));
        }
        for (long none : NO_NUMBERS) {
            at.outside("run: RAIN NO NUMBER", x -> x.run(none, 0));
            at.outside("run: WARMTH NO NUMBER", x -> x.run(0, none));
            at.outside("run: both NO NUMBER", x -> x.run(none, none));
        }
        for (double rain : new double[] {0.0, -0.0, BIT, 1000000.0}) {
            for (double warmth : new double[] {-100.0, -0.0, 0.0, BIT, 100.0}) {
                at.sets("run: RAIN " + rain + ", WARMTH " + warmth, 4, x -> x.run(bits(rain), bits(warmth)));
            }
        }
        for (int what : new int[] {-1, 14, MIN, MAX}) {
            at.outside("lake: what " + what, x -> x.lake(what));
        }
        for (int what : new int[] {-1, 11, MIN, MAX}) {
            at.outside("about: what " + what, x -> x.about(what));
        }
        int[] about = {3, 0, 11, 3, 6, 3, 3, 1, 3, 3, 3};
        for (int what = 0; what <= 10; what++) {
            int of = what;
            at.tells("about: " + what, about[what], x -> x.about(of));
        }
        for (int what = 0; what <= 13; what++) {
            int of = what;
            long told = new UsedLake().lake(what);
            at.tells("lake: " + what, told, x -> x.lake(of));
        }
        ReservoirWall x = new ReservoirWall();
        due.is("ahead of the first STEP", x.lake(TOLD), NO_NUMBER);
        for (int what = INFLOW; what <= LACK; what++) {
            due.real("ahead of the first STEP", x.lake(what), 0.0);
        }
        for (int gauge = 0; gauge < 6; gauge++) {
            x.reading(gauge, bits(1.0));
            due.is("heard ahead of the first STEP", x.heard(gauge), NONE);
        }
        due.is("the first STEP", x.run(0, 0), 1);
        due.is("heard", x.heard(5), HEARD);
        due.is("the second STEP", x.run(0, 0), 2);
    }

    /** The first three STEPS of UsedWall, reckoned here. */
    private static final class UsedLake {
        private double volume = 100000.0;
        private double ground;
        private double snow;
        private double inflow;
        private double out;
        private final double told = 9.0;
        private final double[] openings = new double[4];

        UsedLake() {
            for (int step = 1; step <= 3; step++) {
                double rain = 100.0 * step;
                if (step == 3) {
                    double melt = Math.min(snow, 2.0);
                    snow = snow - melt;
                    ground = ground + rain + melt;
                } else {
                    snow = snow + rain;
                }
                inflow = ground * 0.25;
                ground = ground - inflow;
                // GAUGES 0 and 1 read 9.0 and 9.01 .. 9.03: the lower one. All GATES move at each STEP: by number.
                steer(step == 3 ? 300.0 : 1000.0);
                out = 0.0;
                for (double o : openings) {
                    out = out + o * 400.0 * Math.sqrt(level(volume));
                }
                volume = volume + inflow - out - 0.0;
            }
        }

        private void steer(double wish) {
            double left = wish;
            for (int g = 0; g < 4; g++) {
                double target = left > 0.0 ? Math.min(left / 1200.0, 1.0) : 0.0;
                double by = Math.max(-0.125, Math.min(0.125, target - openings[g]));
                openings[g] = openings[g] + by;
                left = left - openings[g] * 1200.0;
            }
        }

        long lake(int what) {
            double[] all = {volume, level(volume), told, ground, snow, inflow, out, 0.0, 0.0, 0.25};
            return bits(what < 10 ? all[what] : openings[what - 10]);
        }
    }

    /** The LEVEL TOLD at a STEP is 4.0; then one reads at the next STEP. */
    private static void far(double reading, int state) {
        for (int gauge : new int[] {0, 5}) {
            ReservoirWall x = new ReservoirWall();
            x.word(bits(4.0));
            x.run(0, 0);
            x.reading(gauge, bits(reading));
            x.run(0, 0);
            due.is("heard at " + reading, x.heard(gauge), state);
            due.is("unheard at " + reading, x.about(1), state == HEARD ? 0 : 1);
        }
    }

    private static void farAndJumps() {
        far(4.5, HEARD);
        far(3.5, HEARD);
        far(Math.nextUp(4.5), JUMPS);
        far(Math.nextDown(3.5), JUMPS);
        far(Math.nextDown(4.5), HEARD);
        far(Math.nextUp(3.5), HEARD);
        far(1000.0, JUMPS);
        far(-1000.0, JUMPS);
        // At the first STEP there is no LEVEL TOLD before.
        ReservoirWall x = new ReservoirWall();
        x.reading(2, bits(-1000.0));
        x.run(0, 0);
        due.is("at the first STEP", x.heard(2), HEARD);
        // FAR by the size of (READING - LEVEL TOLD), reckoned in doubles.
        x = new ReservoirWall();
        x.word(bits(0.3));
        x.run(0, 0);
        x.reading(0, bits(0.8));
        x.run(0, 0);
        due.is("0.8 - 0.3 is 0.5 in doubles", x.heard(0), 0.8 - 0.3 > 0.5 ? JUMPS : HEARD);
        // FAR at STEPS 2, 3, 4, 5, with a gap at one of them: one bit each, the first STEP being the highest.
        jumps("1111", JUMPS, JUMPS, JUMPS, HEARD);
        jumps("11111", JUMPS, JUMPS, JUMPS, HEARD, HEARD);
        jumps("0111", HEARD, JUMPS, JUMPS, JUMPS);
        jumps("01111", HEARD, JUMPS, JUMPS, JUMPS, HEARD);
        jumps("10111", JUMPS, HEARD, JUMPS, JUMPS, JUMPS);
        jumps("11011", JUMPS, JUMPS, HEARD, JUMPS, JUMPS);
        jumps("11101", JUMPS, JUMPS, JUMPS, HEARD, JUMPS);
        jumps("1-111", JUMPS, SILENT, JUMPS, JUMPS, JUMPS);
        jumps("11-11", JUMPS, JUMPS, SILENT, JUMPS, JUMPS);
        jumps("111-1", JUMPS, JUMPS, JUMPS, SILENT, JUMPS);
        jumps("111-111", JUMPS, JUMPS, JUMPS, SILENT, JUMPS, JUMPS, JUMPS);
        jumps("111-1111", JUMPS, JUMPS, JUMPS, SILENT, JUMPS, JUMPS, JUMPS, HEARD);
    }

    /** GAUGE 1 from STEP 2 on: 1 FAR, 0 not, - without a READING; the WORD of each STEP is 4.0. */
    private static void jumps(String pattern, int... states) {
        ReservoirWall x = new ReservoirWall();
        x.word(bits(4.0));
        x.run(0, 0);
        for (int i = 0; i < pattern.length(); i++) {
            x.word(bits(4.0));
            if (pattern.charAt(i) != '-') {
                x.reading(1, bits(pattern.charAt(i) == '1' ? 6.0 + i : 4.0));
            }
            x.run(0, 0);
            due.is("jumps " + pattern + " at " + i, x.heard(1), states[i]);
        }
    }

    /** READINGS of GAUGE 0 and GAUGE 1 by STEPS (one sign each; - is none): how GAUGE 0 is heard at the last one. */
    private static void hangs(String first, String second, int state) {
        ReservoirWall x = new ReservoirWall();
        for (int i = 0; i < first.length(); i++) {
            if (first.charAt(i) != '-') {
                x.reading(0, bits(9.0 + (first.charAt(i) - 'a') * 0.01));
            }
            if (second.charAt(i) != '-') {
                x.reading(1, bits(9.0 + (second.charAt(i) - 'a') * 0.01));
            }
            x.word(bits(9.0));
            x.run(0, 0);
        }
        due.is("hangs: " + first + " beside " + second, x.heard(0), state);
    }

    private static void hanging() {
        hangs("aaaa", "abab", HANGS);
        hangs("aaa", "aba", HEARD);
        hangs("aaaa", "aaaa", HEARD);
        hangs("aaaa", "----", HEARD);
        hangs("aaaa", "a--b", HANGS);
        hangs("aaaa", "ab--", HANGS);
        hangs("aaaa", "--ab", HANGS);
        hangs("aaaa", "---b", HEARD);
        hangs("aaaa", "aaab", HANGS);
        hangs("aaaa", "baaa", HANGS);
        hangs("aaaaa", "baaaa", HEARD);
        hangs("aaaaa", "b---a", HEARD);
        hangs("aaaaa", "abaaa", HANGS);
        hangs("baaaa", "abaaa", HANGS);
        hangs("baaa", "abab", HEARD);
        hangs("abaa", "abab", HEARD);
        hangs("aaba", "abab", HEARD);
        hangs("aaab", "abab", HEARD);
        hangs("-aaa", "abab", HEARD);
        hangs("a-aa", "abab", HEARD);
        hangs("aa-a", "abab", HEARD);
        hangs("aaa-", "abab", SILENT);
        hangs("aaa-aaaa", "abababab", HANGS);
        hangs("aaa-aaa", "abababa", HEARD);
        // The same bits: 0.0 is not -0.0, as to itself and as to others.
        ReservoirWall x = new ReservoirWall();
        for (int step = 0; step < 4; step++) {
            x.reading(0, bits(step == 1 ? -0.0 : 0.0));
            x.reading(1, bits(0.0));
            x.word(bits(0.0));
            x.run(0, 0);
        }
        due.is("0.0 and -0.0 are unlike bits", x.heard(0), HEARD);
        due.is("0.0 and -0.0 are unlike bits", x.heard(1), HANGS);
        // HANGS is told ahead of JUMPS.
        x = new ReservoirWall();
        for (int step = 0; step < 4; step++) {
            x.reading(0, bits(8.0));
            x.reading(1, bits(9.0 + step * 0.01));
            x.word(bits(step < 2 ? 8.0 : 9.0));
            x.run(0, 0);
        }
        due.is("FAR, and HANGS", x.heard(0), HANGS);
        due.is("the other one is heard", x.heard(1), HEARD);
        // A FAR one that HANGS was FAR, too: at its fourth STEP it no longer JUMPS.
        x = new ReservoirWall();
        x.word(bits(9.0));
        x.run(0, 0);
        for (int step = 0; step < 5; step++) {
            x.reading(0, bits(20.0));
            x.reading(1, bits(9.0 + (step < 1 ? 0.01 : 0.02)));
            x.word(bits(9.0));
            x.run(0, 0);
            due.is("FAR and of the same bits, STEP " + step, x.heard(0), step < 3 ? JUMPS : step == 3 ? HANGS : HEARD);
        }
    }

    /** READINGS of GAUGES 0 .. at the first STEP, and which is THE VOICE. */
    private static void voice(double want, double... readings) {
        ReservoirWall x = new ReservoirWall();
        for (int g = 0; g < readings.length; g++) {
            x.reading(g, bits(readings[g]));
        }
        x.run(0, 0);
        due.real("THE VOICE of " + java.util.Arrays.toString(readings), x.lake(TOLD), want);
        due.is("not UNHEARD", x.about(1), 0);
    }

    private static void voices() {
        ReservoirWall none = new ReservoirWall();
        none.run(0, 0);
        due.real("none is HEARD: LEVEL OF VOLUME", none.lake(TOLD), 9.0 + 1000.0 / 21000.0);
        due.is("UNHEARD", none.about(1), 1);
        voice(5.0, 5.0);
        voice(4.0, 5.0, 4.0);
        voice(4.0, 4.0, 5.0);
        voice(5.0, 6.0, 4.0, 5.0);
        voice(5.0, 7.0, 6.0, 5.0, 4.0);
        voice(6.0, 8.0, 7.0, 6.0, 5.0, 4.0);
        voice(6.0, 9.0, 8.0, 7.0, 6.0, 5.0, 4.0);
        voice(3.0, 3.0, 3.0, 3.0, 3.0, 9.0, 1.0);
        voice(-0.0, -0.0, 0.0);
        voice(0.0, 0.0, -0.0);
        voice(-0.0, 0.0, -0.0, 0.0);
        voice(0.0, -0.0, 0.0, -0.0);
        voice(-0.0, 1.0, 0.0, -0.0, -1.0, 5.0);
        voice(0.0, 1.0, -0.0, 0.0, -1.0, 5.0);
        voice(-1000.0, 1000.0, -1000.0);
        // One that JUMPS does not count: of 4.0, 4.2, 9.0 the lower one of the first two.
        ReservoirWall x = new ReservoirWall();
        x.word(bits(4.0));
        x.run(0, 0);
        x.reading(0, bits(4.2));
        x.reading(1, bits(9.0));
        x.reading(2, bits(4.1));
        x.run(0, 0);
        due.real("without the one that JUMPS", x.lake(TOLD), 4.1);
    }

    private static void unheard() {
        ReservoirWall x = new ReservoirWall();
        x.rate(bits(1.0));
        for (int step = 1; step <= 4; step++) {
            x.run(0, 0);
            due.is("UNHEARD in a row", x.about(1), step);
            for (int gate = 0; gate < 4; gate++) {
                due.real("half open from the third on", x.lake(OPENING + gate), step < 3 ? 0.0 : 0.5);
            }
        }
        x.word(bits(9.0));
        x.run(0, 0);
        due.is("heard", x.about(1), 0);
        due.real("shut", x.lake(OPENING), 0.0);
        x.run(0, 0);
        x.run(0, 0);
        due.is("twice again", x.about(1), 2);
        due.real("still shut", x.lake(OPENING), 0.0);
        x.run(0, 0);
        due.real("half open", x.lake(OPENING), 0.5);
    }

    /** A wish at LEVEL TOLD 9.0 (full is 1200.0), RATE 1.0: the openings behind the first STEP. */
    private static void wished(double wish, double... want) {
        ReservoirWall x = new ReservoirWall();
        x.rate(bits(1.0));
        x.rule(0, 0, 365, bits(0.0), bits(50.0), bits(wish));
        x.word(bits(9.0));
        x.run(0, 0);
        for (int gate = 0; gate < 4; gate++) {
            due.real("wish " + wish + ": opening " + gate, x.lake(OPENING + gate), want[gate]);
            due.is("wish " + wish + ": moved " + gate, x.moved(gate, 0), want[gate] == 0.0 ? 0 : 1);
        }
    }

    private static void targets() {
        wished(0.0, 0.0, 0.0, 0.0, 0.0);
        wished(-0.0, 0.0, 0.0, 0.0, 0.0);
        wished(600.0, 0.5, 0.0, 0.0, 0.0);
        wished(1200.0, 1.0, 0.0, 0.0, 0.0);
        wished(1500.0, 1.0, 0.25, 0.0, 0.0);
        wished(2400.0, 1.0, 1.0, 0.0, 0.0);
        wished(4800.0, 1.0, 1.0, 1.0, 1.0);
        wished(4801.0, 1.0, 1.0, 1.0, 1.0);
        wished(1000000.0, 1.0, 1.0, 1.0, 1.0);
        wished(Math.nextDown(1200.0), Math.nextDown(1200.0) / 1200.0, left(Math.nextDown(1200.0)), 0.0, 0.0);
        wished(Math.nextUp(1200.0), 1.0, (Math.nextUp(1200.0) - 1200.0) / 1200.0, 0.0, 0.0);
        // A LEVEL TOLD of 0.0 or below: full is 0.0.
        for (double told : new double[] {0.0, -0.0, -1.0, -1000.0}) {
            ReservoirWall x = new ReservoirWall();
            x.rate(bits(1.0));
            x.rule(0, 0, 365, bits(-2000.0), bits(50.0), bits(600.0));
            x.word(bits(9.0));
            x.run(0, 0);
            due.real("open", x.lake(OPENING), 0.5);
            // GATE 0 has moved, so it comes last; what is FAR is read for the first time in no voice but here.
            for (int step = 0; step < 4; step++) {
                x.reading(0, bits(told));
                if (step < 3) {
                    x.word(bits(9.0));
                    x.hand(0, bits(0.5));
                }
                x.run(0, 0);
            }
            due.real("told", x.lake(TOLD), told);
            x.hand(0, NO_NUMBER);
            x.reading(0, bits(told));
            x.run(0, 0);
            for (int gate = 0; gate < 4; gate++) {
                due.real("no target at " + told, x.lake(OPENING + gate), 0.0);
            }
        }
    }

    /** left / full just above 1.0 is 1.0, from an opening that RATE does not hold back. */
    private static void targetsAboveOne() {
        for (double wish : new double[] {Math.nextDown(1200.0), 1200.0, Math.nextUp(1200.0), 1200.0000000001, 1300.0}) {
            ReservoirWall x = new ReservoirWall();
            for (int gate = 0; gate < 4; gate++) {
                x.hand(gate, bits(gate == 0 ? 0.5 : 0.0));
            }
            x.rate(bits(1.0));
            x.rule(0, 0, 365, bits(0.0), bits(50.0), bits(wish));
            x.word(bits(9.0));
            x.run(0, 0);
            x.hand(0, NO_NUMBER);
            x.word(bits(9.0));
            x.run(0, 0);
            double target = wish / 1200.0 > 1.0 ? 1.0 : wish / 1200.0;
            due.real("from 0.5 by a wish of " + wish, x.lake(OPENING), 0.5 + (target - 0.5));
        }
    }

    /** Those that moved at fewer STEPS come first, of like ones by number: a wish of one GATE's full flow shows who is first. */
    private static void orders() {
        for (int first = 0; first < 4; first++) {
            for (int second = 0; second < 4; second++) {
                // HANDS move all but these two: once, or twice.
                ReservoirWall x = new ReservoirWall();
                x.rate(bits(1.0));
                x.rule(0, 3, 3, bits(0.0), bits(50.0), bits(1500.0));
                for (int step = 1; step <= 2; step++) {
                    for (int gate = 0; gate < 4; gate++) {
                        boolean moves = gate != first && (gate != second || step == 1);
                        x.hand(gate, bits(moves ? (step == 1 ? 0.5 : 0.25) : gate == second && step == 2 && first != second ? 0.5 : 0.0));
                    }
                    x.word(bits(9.0));
                    x.run(0, 0);
                }
                for (int gate = 0; gate < 4; gate++) {
                    due.is("moved", x.moved(gate, 0), gate == first ? 0 : gate == second ? 1 : 2);
                    x.hand(gate, NO_NUMBER);
                }
                x.word(bits(9.0));
                x.run(0, 0);
                // The first takes 1.0, the next one 0.25.
                int next = second;
                if (first == second) {
                    next = first == 0 ? 1 : 0;
                }
                for (int gate = 0; gate < 4; gate++) {
                    due.real("order " + first + ", " + next + ": opening " + gate, x.lake(OPENING + gate), gate == first ? 1.0 : gate == next ? 0.25 : 0.0);
                }
            }
        }
    }

    /** The opening is wish / (400.0 times the root of LEVEL TOLD), to the bit. */
    private static void roots() {
        double[] levels = {BIT, 2 * BIT, 3 * BIT, 1.0E-310, Math.nextDown(Double.MIN_NORMAL), Double.MIN_NORMAL, 1.0E-300, 1.0E-10, 0.25, 0.5, Math.nextDown(1.0), 1.0,
            Math.nextUp(1.0), 2.0, Math.nextDown(4.0), 4.0, Math.nextUp(4.0), 7.0, 9.0, 10.0, Math.nextDown(25.0), 25.0, 50.0, 99.9, Math.nextDown(100.0), 100.0};
        for (double level : levels) {
            double full = 400.0 * Math.sqrt(level);
            double wish = full * 0.7;
            ReservoirWall x = new ReservoirWall();
            x.rate(bits(1.0));
            x.rule(0, 0, 365, bits(0.0), bits(101.0), bits(wish));
            x.word(bits(level));
            x.run(0, 0);
            due.real("opening at LEVEL TOLD " + level, x.lake(OPENING), wish / full);
        }
    }

    private static double left(double wish) {
        double over = wish - wish / 1200.0 * 1200.0;
        return over > 0.0 ? over / 1200.0 : 0.0;
    }

    /** From 0.5 (by a HAND) to a target of 0.0 or 1.0, by RATE. */
    private static void rates() {
        double[] rates = {0.0, BIT, 0.125, 0.25, 0.5, Math.nextUp(0.5), 1.0};
        for (double rate : rates) {
            for (boolean open : new boolean[] {false, true}) {
                ReservoirWall x = new ReservoirWall();
                x.hand(0, bits(0.5));
                x.rate(bits(rate));
                if (open) {
                    x.rule(0, 0, 365, bits(0.0), bits(50.0), bits(1000000.0));
                }
                for (int gate = 1; gate < 4; gate++) {
                    x.hand(gate, bits(0.0));
                }
                x.word(bits(9.0));
                x.run(0, 0);
                x.hand(0, NO_NUMBER);
                x.word(bits(9.0));
                x.run(0, 0);
                double by = Math.min(rate, 0.5);
                double want = open ? 0.5 + by : 0.5 - by;
                due.real("by RATE " + rate, x.lake(OPENING), want);
                due.is("moved", x.moved(0, 0), bits(want) == bits(0.5) ? 1 : 2);
            }
        }
    }

    private static void stuckAndHands() {
        ReservoirWall x = new ReservoirWall();
        x.hand(0, bits(1.0));
        x.stuck(0, true);
        x.stuck(1, true);
        x.rate(bits(1.0));
        x.rule(0, 0, 365, bits(0.0), bits(50.0), bits(1000000.0));
        x.word(bits(9.0));
        x.run(0, 0);
        due.real("STUCK, with a HAND, too", x.lake(OPENING), 0.0);
        due.real("STUCK", x.lake(OPENING + 1), 0.0);
        due.real("not STUCK", x.lake(OPENING + 2), 1.0);
        due.is("STUCK did not move", x.moved(0, 0), 0);
        x.stuck(0, false);
        x.word(bits(9.0));
        x.run(0, 0);
        due.real("its HAND takes hold", x.lake(OPENING), 1.0);
        due.is("it moved", x.moved(0, 0), 1);
        x.word(bits(9.0));
        x.run(0, 0);
        due.is("the same bits are no move", x.moved(0, 0), 1);
        x.hand(0, bits(0.0));
        x.word(bits(9.0));
        x.run(0, 0);
        due.is("another HAND", x.moved(0, 0), 2);
        x.hand(0, bits(-0.0));
        x.word(bits(9.0));
        x.run(0, 0);
        due.is("-0.0 has other bits", x.moved(0, 0), 3);
        due.real("-0.0", x.lake(OPENING), -0.0);
        // UNHEARD for long: a HAND stays, and so does what is STUCK.
        x = new ReservoirWall();
        x.rate(bits(1.0));
        x.hand(0, bits(0.25));
        x.stuck(1, true);
        for (int step = 0; step < 3; step++) {
            x.run(0, 0);
        }
        due.real("HAND", x.lake(OPENING), 0.25);
        due.real("STUCK", x.lake(OPENING + 1), 0.0);
        due.real("half open", x.lake(OPENING + 2), 0.5);
        due.real("half open", x.lake(OPENING + 3), 0.5);
    }

    private static void weather() {
        // SNOW is 10.0 at first; WARMTH, then SNOW and INFLOW behind it.
        double[][] melts = {{-100.0, 10.0, 0.0}, {-0.0, 10.0, 0.0}, {0.0, 10.0, 0.0}, {BIT, 10.0, 2 * BIT * 0.25}, {4.0, 2.0, 2.0}, {Math.nextDown(5.0), 10.0 - 2.0 * Math.nextDown(5.0), Math.nextDown(5.0) / 2.0},
            {5.0, 0.0, 2.5}, {Math.nextUp(5.0), 0.0, 2.5}, {100.0, 0.0, 2.5}};
        for (double[] m : melts) {
            ReservoirWall x = new ReservoirWall();
            x.run(bits(10.0), bits(-1.0));
            due.real("SNOW", x.lake(SNOW), 10.0);
            x.run(bits(0.0), bits(m[0]));
            due.real("SNOW at WARMTH " + m[0], x.lake(SNOW), m[1]);
            due.real("INFLOW at WARMTH " + m[0], x.lake(INFLOW), m[2]);
        }
        // RAIN of 8.0: at 0.0 it is SNOW, above it is GROUND.
        double[][] rains = {{-1.0, 8.0, 0.0}, {-0.0, 8.0, 0.0}, {0.0, 8.0, 0.0}, {BIT, 0.0, 6.0}, {1.0, 0.0, 6.0}};
        for (double[] r : rains) {
            ReservoirWall x = new ReservoirWall();
            x.run(bits(8.0), bits(r[0]));
            due.real("SNOW at WARMTH " + r[0], x.lake(SNOW), r[1]);
            due.real("GROUND at WARMTH " + r[0], x.lake(GROUND), r[2]);
            due.real("INFLOW at WARMTH " + r[0], x.lake(INFLOW), r[2] / 3.0);
            due.real("VOLUME", x.lake(VOLUME), 100000.0 + r[2] / 3.0);
        }
        ReservoirWall x = new ReservoirWall();
        x.run(bits(1000000.0), bits(100.0));
        due.real("most RAIN", x.lake(GROUND), 750000.0);
        due.real("most RAIN", x.lake(VOLUME), 350000.0);
    }

    /** All GATES shut by HANDS. */
    private static ReservoirWall shut() {
        ReservoirWall x = new ReservoirWall();
        for (int gate = 0; gate < 4; gate++) {
            x.hand(gate, bits(0.0));
        }
        return x;
    }

    private static void spills() {
        ReservoirWall x = shut();
        x.run(bits(1000000.0), bits(1.0));
        x.run(bits(500000.0), bits(1.0));
        x.run(bits(252500.0), bits(1.0));
        due.real("T(30)", x.lake(VOLUME), 960000.0);
        due.real("at the SILL", x.lake(LEVEL), 30.0);
        due.real("no SPILL below", x.lake(SPILL), 0.0);
        double ground = (((750000.0 + 500000.0) * 0.75) + 252500.0) * 0.75;
        due.real("GROUND", x.lake(GROUND), ground);
        x.run(bits(0.0), bits(-1.0));
        due.real("no SPILL at the SILL", x.lake(SPILL), 0.0);
        double volume = 960000.0 + ground * 0.25;
        due.real("VOLUME", x.lake(VOLUME), volume);
        due.real("LEVEL", x.lake(LEVEL), level(volume));
        x.run(bits(0.0), bits(-1.0));
        double over = level(volume) - 30.0;
        due.real("SPILL above it", x.lake(SPILL), over * over * 150.0);
        due.real("VOLUME", x.lake(VOLUME), volume + ground * 0.75 * 0.25 - 0.0 - over * over * 150.0);
        due.real("no LACK", x.lake(LACK), 0.0);

        // Just above the SILL.
        x = shut();
        x.run(bits(1000000.0), bits(1.0));
        x.run(bits(500000.0), bits(1.0));
        x.run(bits(252504.0), bits(1.0));
        due.real("a unit above T(30)", x.lake(VOLUME), 960001.0);
        x.run(bits(0.0), bits(-1.0));
        double little = 30.0 + 1.0 / 63000.0 - 30.0;
        due.real("a little SPILL", x.lake(SPILL), little * little * 150.0);
        // The next VOLUME above T(30), and the next one below it.
        for (double by : new double[] {-0x1p-32, 0.0, 0x1p-32}) {
            double rain = 252500.0 + 2.0 * by;
            double inflow = ((750000.0 + 500000.0) * 0.75 + rain) * 0.25;
            x = shut();
            x.run(bits(1000000.0), bits(1.0));
            x.run(bits(500000.0), bits(1.0));
            x.run(bits(rain), bits(1.0));
            double near = 662500.0 - 0.0 + inflow;
            due.real("near T(30)", x.lake(VOLUME), near);
            due.is("on its side of T(30)", Double.compare(near, 960000.0), (int) Math.signum(by));
            x.run(bits(0.0), bits(-1.0));
            double above = level(near) - 30.0;
            due.real("SPILL near T(30)", x.lake(SPILL), above > 0.0 ? above * above * 150.0 : 0.0);
            due.is("any SPILL", real(x.lake(SPILL)) > 0.0 ? 1 : 0, by > 0.0 ? 1 : 0);
        }
    }

    private static double spillAt(double volume) {
        double over = level(volume) - 30.0;
        return over > 0.0 ? over * over * 150.0 : 0.0;
    }

    /** The last STEP's RAIN brings the VOLUME to T(40), to a unit below or above it, or far beyond. */
    private static void tops() {
        double[][] heavy = {{-1.0, 0.0}, {0.0, 0.0}, {1.0, 1.0}, {100000.0, 100000.0}};
        for (double[] h : heavy) {
            ReservoirWall x = shut();
            double volume = 100000.0;
            double ground = 0.0;
            for (double rain : new double[] {1000000.0, 1000000.0, 500000.0}) {
                x.run(bits(rain), bits(1.0));
                ground = ground + rain;
                volume = volume + ground * 0.25 - 0.0 - spillAt(volume);
                ground = ground - ground * 0.25;
            }
            due.real("VOLUME", x.lake(VOLUME), volume);
            due.real("GROUND", x.lake(GROUND), ground);
            double spill = spillAt(volume);
            // The SPILL of 150 x x makes no whole number: RAIN is searched for, so that the sum in doubles comes out.
            double rain = 4.0 * (1680000.0 + h[0] + spill - volume) - ground;
            double to = volume + (ground + rain) * 0.25 - 0.0 - spill;
            for (int i = 0; i < 64 && to != 1680000.0 + h[0]; i++) {
                rain = to < 1680000.0 + h[0] ? Math.nextUp(rain) : Math.nextDown(rain);
                to = volume + (ground + rain) * 0.25 - 0.0 - spill;
            }
            due.real("RAIN found", bits(to), 1680000.0 + h[0]);
            x.run(bits(rain), bits(1.0));
            due.real("VOLUME, T(40) at most", x.lake(VOLUME), 1680000.0 + h[0] - h[1]);
            due.real("what is beyond goes to SPILL", x.lake(SPILL), h[1] == 0.0 ? spill : spill + (to - 1680000.0));
            due.real("no LACK", x.lake(LACK), 0.0);
            due.real("LEVEL", x.lake(LEVEL), level(1680000.0 + h[0] - h[1]));
        }
    }

    /** The lake runs empty: 0.0, and what lacks is LACK; then nothing flows. */
    private static void empty() {
        ReservoirWall x = new ReservoirWall();
        for (int gate = 0; gate < 4; gate++) {
            x.hand(gate, bits(1.0));
        }
        double volume = 100000.0;
        int steps = 0;
        boolean lacked = false;
        while (!lacked && steps < 120) {
            double flow = 1.0 * 400.0 * Math.sqrt(level(volume));
            double out = 0.0 + flow + flow + flow + flow;
            double to = volume + 0.0 - out - 0.0;
            lacked = to < 0.0;
            x.run(0, 0);
            steps++;
            due.real("OUT", x.lake(OUT), out);
            due.real("LACK", x.lake(LACK), lacked ? -to : 0.0);
            due.real("VOLUME", x.lake(VOLUME), lacked ? 0.0 : to);
            volume = lacked ? 0.0 : to;
        }
        due.is("it ran empty", lacked ? 1 : 0, 1);
        due.real("LEVEL", x.lake(LEVEL), 0.0);
        x.run(0, 0);
        due.real("the root of 0.0", x.lake(OUT), 0.0);
        due.real("no LACK any more", x.lake(LACK), 0.0);
        due.real("empty still", x.lake(VOLUME), 0.0);
        // UNHEARD for long at a LEVEL of 0.0: 0.5 comes ahead of full being 0.0.
        x.hand(3, NO_NUMBER);
        x.rate(bits(1.0));
        x.run(0, 0);
        due.real("half open", x.lake(OPENING + 3), 0.5);
        x.word(bits(0.0));
        x.run(0, 0);
        due.real("shut", x.lake(OPENING + 3), 0.0);
    }

    /** The day of a STEP is its number modulo 366; RULES of one day each wish 120.0 or more (of 1200.0). */
    private static void days() {
        ReservoirWall x = new ReservoirWall();
        x.rate(bits(1.0));
        int[] days = {0, 1, 2, 364, 365};
        for (int i = 0; i < days.length; i++) {
            x.rule(0, days[i], days[i], bits(0.0), bits(50.0), bits(120.0 * (i + 1)));
        }
        for (int step = 1; step <= 369; step++) {
            boolean asked = step <= 3 || step >= 363;
            if (asked) {
                x.word(bits(9.0));
            }
            due.is("STEP", x.run(0, 0), step);
            if (asked) {
                double want = 0.0;
                for (int i = 0; i < days.length; i++) {
                    if (step % 366 == days[i]) {
                        want = 120.0 * (i + 1) / 1200.0;
                    }
                }
                double sum = 0.0;
                for (int gate = 0; gate < 4; gate++) {
                    sum += real(x.lake(OPENING + gate));
                }
                due.is("openings of STEP " + step, Math.abs(sum - want) < 1e-9 ? 1 : 0, 1);
            }
        }
    }

    public static void main(String[] args) {
        table();
        turned();
        readingAndWord();
        stuckHandRate();
        runAndLake();
        farAndJumps();
        hanging();
        voices();
        unheard();
        targets();
        targetsAboveOne();
        orders();
        roots();
        rates();
        stuckAndHands();
        weather();
        spills();
        tops();
        empty();
        days();
        due.end();
    }
}
