/** Promises 50 to 61. */
public final class LakeTest {
    private static final int INDEX = -2000000012;
    private static final int NONE = ReservoirWall.NONE, UNKNOWN = ReservoirWall.UNKNOWN, OUTSIDE = ReservoirWall.OUTSIDE;
    private static final long NO_NUMBER = 0x7FF8000000000000L, OTHER_NO_NUMBER = 0xFFF0000000000777L;
    private static final int VOLUME = 0, LEVEL = 1, TOLD = 2, GROUND = 3, SNOW = 4, INFLOW = 5, OUT = 6, SPILL = 7, LACK = 8, RATE = 9, OPENING = 10;

    private static final Due due = new Due("LakeTest");

    private static long bits(double d) {
        return Double.doubleToRawLongBits(d);
    }

    private static double real(long bits) {
        return Double.longBitsToDouble(bits);
    }

    private static int run(ReservoirWall x, double rain, double warmth) {
        return x.run(bits(rain), bits(warmth));
    }

    private static void heard(ReservoirWall x, String when, int... want) {
        for (int g = 0; g < want.length; g++) {
            due.is(when + ": heard(" + g + ")", x.heard(g), want[g]);
        }
    }

    private static void openings(ReservoirWall x, String when, double... want) {
        for (int g = 0; g < want.length; g++) {
            due.real(when + ": opening " + g, x.lake(OPENING + g), want[g]);
        }
    }

    private static void moves(ReservoirWall x, String when, int... want) {
        for (int g = 0; g < want.length; g++) {
            due.is(when + ": moved(" + g + ")", x.moved(g, 0), want[g]);
        }
    }

    private static void tableAndTurned() {
        ReservoirWall x = new ReservoirWall();
        for (int k = 0; k <= 40; k++) {
            due.is("table", x.table(k), 1000 * k * k + 2000 * k);
            due.real("turned at a line", x.turned(bits(1000 * k * k + 2000 * k)), k);
        }
        due.is("table 41", x.table(41), INDEX);
        due.is("raised", x.raised(0), 2);
        due.is("table -1", x.table(-1), INDEX);
        due.real("between lines", x.turned(bits(5500.0)), 1.0 + 2500.0 / 5000.0);
        due.real("just below a line", x.turned(bits(Math.nextDown(8000.0))), 1.0 + (Math.nextDown(8000.0) - 3000.0) / 5000.0);
        due.real("the last stretch", x.turned(bits(1600000.0)), 39.0 + (1600000.0 - 1599000.0) / 81000.0);
        due.real("-0.0", x.turned(bits(-0.0)), 0.0);
        due.is("below 0", x.turned(bits(-Double.MIN_VALUE)), OUTSIDE);
        due.is("above", x.turned(bits(Math.nextUp(1680000.0))), OUTSIDE);
        due.is("no number", x.turned(OTHER_NO_NUMBER), OUTSIDE);
        due.is("endless", x.turned(bits(Double.POSITIVE_INFINITY)), OUTSIDE);
    }

    private static void wrongInputs() {
        ReservoirWall x = new ReservoirWall();
        due.is("gauge 6", x.reading(6, bits(5000)), UNKNOWN);
        due.is("gauge -1", x.reading(-1, 0), UNKNOWN);
        due.is("reading too high", x.reading(0, bits(Math.nextUp(1000.0))), OUTSIDE);
        due.is("reading too low", x.reading(0, bits(Math.nextDown(-1000.0))), OUTSIDE);
        due.is("reading at the bound", x.reading(0, bits(-1000.0)), 1);
        due.is("reading none", x.reading(0, OTHER_NO_NUMBER), 1);
        due.is("word too high", x.word(bits(100.5)), OUTSIDE);
        due.is("word too low", x.word(bits(-1.0)), OUTSIDE);
        due.is("word", x.word(bits(100.0)), 1);
        due.is("word none", x.word(NO_NUMBER), 1);
        due.is("stuck 4", x.stuck(4, true), UNKNOWN);
        due.is("stuck -1", x.stuck(-1, true), UNKNOWN);
        due.is("stuck was not", x.stuck(3, true), 0);
        due.is("stuck was", x.stuck(3, false), 1);
        due.is("stuck was not", x.stuck(3, false), 0);
        due.is("hand 4", x.hand(4, bits(9)), UNKNOWN);
        due.is("hand outside", x.hand(0, bits(1.5)), OUTSIDE);
        due.is("hand outside", x.hand(0, bits(-0.5)), OUTSIDE);
        due.is("hand", x.hand(0, bits(1.0)), 1);
        due.is("has a hand", x.moved(0, 2), 1);
        due.is("hand given back", x.hand(0, NO_NUMBER), 1);
        due.is("has none", x.moved(0, 2), 0);
        due.is("rate outside", x.rate(bits(1.5)), OUTSIDE);
        due.is("rate outside", x.rate(bits(-0.5)), OUTSIDE);
        due.is("rate no number", x.rate(NO_NUMBER), OUTSIDE);
        due.real("rate stays", x.lake(RATE), 0.125);
        due.is("rate", x.rate(bits(0.3)), 1);
        due.real("rate", x.lake(RATE), 0.3);
        due.is("rain", x.run(bits(-1.0), 0), OUTSIDE);
        due.is("rain", x.run(bits(1000001.0), 0), OUTSIDE);
        due.is("rain", x.run(NO_NUMBER, 0), OUTSIDE);
        due.is("warmth", x.run(0, bits(100.5)), OUTSIDE);
        due.is("warmth", x.run(0, bits(-100.5)), OUTSIDE);
        due.is("warmth", x.run(0, NO_NUMBER), OUTSIDE);
        due.is("no step yet", x.about(0), 0);
        due.is("run at the bounds", run(x, 1000000.0, 100.0), 1);
        due.is("run at the bounds", run(x, -0.0, -100.0), 2);
        due.is("lake 14", x.lake(14), OUTSIDE);
        due.is("lake -1", x.lake(-1), OUTSIDE);
        due.is("heard 6", x.heard(6), UNKNOWN);
        due.is("heard -1", x.heard(-1), UNKNOWN);
        due.is("moved gate 4", x.moved(4, 9), UNKNOWN);
        due.is("moved what 3", x.moved(0, 3), OUTSIDE);
        due.is("moved what -1", x.moved(0, -1), OUTSIDE);
        due.is("about 11", x.about(11), OUTSIDE);
        due.is("about -1", x.about(-1), OUTSIDE);
    }

    private static void snowAndGround() {
        ReservoirWall x = new ReservoirWall();
        run(x, 1000.0, 0.0);
        due.real("0.0 is not above: snow", x.lake(SNOW), 1000.0);
        due.real("ground", x.lake(GROUND), 0.0);
        run(x, 10.0, 30.0);
        due.real("melt is 2 c", x.lake(SNOW), 940.0);
        due.real("inflow", x.lake(INFLOW), 70.0 * 0.25);
        due.real("ground", x.lake(GROUND), 70.0 - 17.5);
        due.real("volume", x.lake(VOLUME), 100000.0 + 17.5);
        x = new ReservoirWall();
        run(x, 50.0, -1.0);
        run(x, 0.0, 100.0);
        due.real("melt is all snow", x.lake(SNOW), 0.0);
        due.real("ground", x.lake(GROUND), 37.5);
        due.real("told is the level of the volume ahead of the flow", x.lake(TOLD), 9.0 + 1000.0 / 21000.0);
        due.real("level of volume", x.lake(LEVEL), 9.0 + (100000.0 + 12.5 - 99000.0) / 21000.0);
    }

    private static void voices() {
        ReservoirWall x = new ReservoirWall();
        x.reading(0, bits(7.0));
        x.reading(0, bits(5.0));
        x.reading(1, bits(3.0));
        x.reading(2, bits(4.0));
        x.reading(3, bits(9.0));
        x.reading(4, bits(1.0));
        x.reading(4, NO_NUMBER);
        run(x, 0, 0);
        due.real("the lower one in the middle, of the latest readings", x.lake(TOLD), 4.0);
        heard(x, "first step", 0, 0, 0, 0, 1, 1);
        x.reading(0, bits(4.5));
        x.reading(1, bits(3.5));
        x.reading(2, bits(Math.nextUp(4.5)));
        x.reading(3, bits(Math.nextDown(3.5)));
        x.reading(4, bits(4.25));
        run(x, 0, 0);
        heard(x, "half a metre", 0, 0, 3, 3, 0, 1);
        due.real("middle", x.lake(TOLD), 4.25);
        run(x, 0, 0);
        heard(x, "readings hold for one step", 1, 1, 1, 1, 1, 1);
        due.is("unheard", x.about(1), 1);
        due.real("level of volume", x.lake(TOLD), 9.0 + 1000.0 / 21000.0);

        x = new ReservoirWall();
        x.reading(3, bits(0.0));
        x.reading(1, bits(-0.0));
        run(x, 0, 0);
        due.real("like ones by numbers", x.lake(TOLD), -0.0);
        x.reading(3, bits(-0.0));
        x.reading(1, bits(0.0));
        run(x, 0, 0);
        due.real("like ones by numbers", x.lake(TOLD), 0.0);
    }

    private static void jumps() {
        ReservoirWall x = new ReservoirWall();
        x.reading(0, bits(10.0));
        run(x, 0, 0);
        for (int step = 2; step <= 4; step++) {
            x.reading(0, bits(10.0 + step * 0.01));
            x.reading(1, bits(20.0 + step));
            run(x, 0, 0);
            heard(x, "step " + step, 0, 3);
        }
        x.reading(0, bits(10.0));
        x.reading(1, bits(25.0));
        run(x, 0, 0);
        heard(x, "far for the fourth time", 0, 0);
        due.real("heard", x.lake(TOLD), 10.0);
        x.reading(0, bits(10.0));
        run(x, 0, 0);
        x.reading(1, bits(25.0));
        run(x, 0, 0);
        heard(x, "a step without a reading is not far", 1, 3);
        due.is("unheard", x.about(1), 1);
    }

    private static void hangs() {
        ReservoirWall x = new ReservoirWall();
        for (int step = 1; step <= 3; step++) {
            x.reading(0, bits(10.0));
            x.reading(1, bits(10.0));
            if (step == 1) {
                x.reading(2, bits(0.0));
            }
            run(x, 0, 0);
            heard(x, "step " + step, 0, 0, step == 1 ? 0 : 1);
        }
        x.reading(0, bits(10.0));
        x.reading(1, bits(10.0));
        x.reading(2, bits(10.0));
        run(x, 0, 0);
        heard(x, "another had two unlike ones", 2, 2, 0);
        x.reading(0, bits(10.0));
        x.reading(1, bits(10.0));
        x.reading(2, bits(10.0));
        run(x, 0, 0);
        heard(x, "none had, at these four", 0, 0, 0);
        x.reading(0, bits(10.0));
        x.reading(2, bits(10.25));
        run(x, 0, 0);
        heard(x, "its own are no matter", 2, 1, 0);

        x = new ReservoirWall();
        for (int step = 1; step <= 4; step++) {
            x.reading(5, bits(0.0));
            x.reading(4, bits(step == 2 ? -0.0 : 0.0));
            run(x, 0, 0);
        }
        heard(x, "0.0 and -0.0 are unlike bits", 1, 1, 1, 1, 0, 2);
        due.real("only one is heard", x.lake(TOLD), 0.0);
        x = new ReservoirWall();
        for (int step = 1; step <= 5; step++) {
            if (step != 3) {
                x.reading(5, bits(9.0));
            }
            x.reading(4, bits(9.0 + step * 0.01));
            run(x, 0, 0);
        }
        heard(x, "not at all four", 1, 1, 1, 1, 0, 0);
    }

    private static void words() {
        ReservoirWall x = new ReservoirWall();
        x.reading(0, bits(8.0));
        x.word(bits(50.0));
        x.word(bits(60.0));
        run(x, 0, 0);
        due.real("a word stands in place", x.lake(TOLD), 60.0);
        heard(x, "the gauge is heard, too", 0);
        due.is("not unheard", x.about(1), 0);
        x.word(bits(60.0));
        x.word(OTHER_NO_NUMBER);
        run(x, 0, 0);
        due.is("a word may be taken back", x.about(1), 1);
        x.word(bits(-0.0));
        run(x, 0, 0);
        due.real("-0.0", x.lake(TOLD), -0.0);
        due.is("heard", x.about(1), 0);
        run(x, 0, 0);
        due.is("for one step alone", x.about(1), 1);
    }

    private static double full(double level) {
        return 400.0 * Math.sqrt(level);
    }

    private static void steering() {
        ReservoirWall x = new ReservoirWall();
        x.rate(bits(1.0));
        x.rule(0, 0, 365, bits(0.0), bits(101.0), bits(1500.0));
        x.word(bits(9.0));
        run(x, 0, 0);
        openings(x, "one after another", 1.0, (1500.0 - 1200.0) / 1200.0, 0.0, 0.0);
        moves(x, "moved", 1, 1, 0, 0);
        double root = Math.sqrt(9.0 + 1000.0 / 21000.0);
        double out = 0.0 + 1.0 * 400.0 * root + 0.25 * 400.0 * root + 0.0 + 0.0;
        due.real("out", x.lake(OUT), out);
        due.real("volume", x.lake(VOLUME), 100000.0 - out);
        x.word(bits(9.0));
        run(x, 0, 0);
        openings(x, "those that moved less come first", 0.0, 0.0, 1.0, 0.25);
        moves(x, "moved", 2, 2, 1, 1);
        x.word(bits(0.0));
        run(x, 0, 0);
        openings(x, "no level, no target", 0.0, 0.0, 0.0, 0.0);
        moves(x, "moved", 2, 2, 2, 2);
        x.rate(bits(0.125));
        x.word(bits(9.0));
        run(x, 0, 0);
        openings(x, "by the rate", 0.125, 0.125, 0.125, 0.125);
        x.word(bits(100.0));
        x.rate(bits(0.0625));
        run(x, 0, 0);
        openings(x, "up while something is left, then down", 0.1875, 0.1875, 0.0625, 0.0625);
        x.word(bits(100.0));
        x.rate(bits(0.0));
        run(x, 0, 0);
        openings(x, "rate 0.0", 0.1875, 0.1875, 0.0625, 0.0625);
        moves(x, "none moved", 4, 4, 4, 4);
    }

    private static void unheard() {
        ReservoirWall x = new ReservoirWall();
        x.rate(bits(1.0));
        x.rule(0, 0, 365, bits(0.0), bits(100.0), bits(100.0));
        run(x, 0, 0);
        double level = 9.0 + 1000.0 / 21000.0;
        openings(x, "unheard once: by the level of the volume", 100.0 / full(level), 0.0, 0.0, 0.0);
        run(x, 0, 0);
        due.is("twice", x.about(1), 2);
        run(x, 0, 0);
        due.is("three times", x.about(1), 3);
        openings(x, "half open", 0.5, 0.5, 0.5, 0.5);
        x.reading(0, bits(0.0));
        x.word(bits(0.0));
        run(x, 0, 0);
        due.is("heard again", x.about(1), 0);
        openings(x, "shut", 0.0, 0.0, 0.0, 0.0);
    }

    private static void stuckAndHands() {
        ReservoirWall x = new ReservoirWall();
        x.rate(bits(1.0));
        x.rule(0, 0, 365, bits(0.0), bits(100.0), bits(1500.0));
        x.hand(1, bits(0.75));
        openings(x, "from the next step on", 0.0, 0.0, 0.0, 0.0);
        x.word(bits(9.0));
        run(x, 0, 0);
        openings(x, "a hand at once", 1.0, 0.75, 0.0, 0.0);
        x.stuck(1, true);
        x.hand(1, bits(0.1));
        x.word(bits(9.0));
        run(x, 0, 0);
        // Order 2, 3 (moved never), 0, 1.
        openings(x, "stuck, with a hand, too", 0.0, 0.75, 1.0, 0.25);
        moves(x, "moved", 2, 1, 1, 1);
        x.word(bits(9.0));
        run(x, 0, 0);
        // Order 1, 2, 3, 0: the stuck one lets out 900.
        openings(x, "what a stuck one lets out counts", 0.0, 0.75, 0.5, 0.0);
        moves(x, "moved", 2, 1, 2, 2);
        due.is("stuck is told", x.moved(1, 1), 1);
        due.is("others are not", x.moved(0, 1), 0);
        x.stuck(1, false);
        x.word(bits(9.0));
        run(x, 0, 0);
        // Order 1, 0, 2, 3.
        openings(x, "its hand takes hold", 1.0, 0.1, 0.5 + ((1500.0 - 0.1 * 1200.0 - 1200.0) / 1200.0 - 0.5), 0.0);
        moves(x, "moved", 3, 2, 3, 2);
        x.hand(1, NO_NUMBER);
        x.word(bits(9.0));
        run(x, 0, 0);
        // Order 1, 3, 0, 2.
        openings(x, "given back", 0.0, 1.0, 0.0, 0.25);

        x = new ReservoirWall();
        x.hand(2, bits(-0.0));
        run(x, 0, 0);
        openings(x, "-0.0", 0.0, 0.0, -0.0, 0.0);
        moves(x, "other bits are a move", 0, 0, 1, 0);
        due.real("out", x.lake(OUT), 0.0);
    }

    private static void daysOfRules() {
        ReservoirWall x = new ReservoirWall();
        x.rate(bits(1.0));
        x.rule(0, 1, 1, bits(0.0), bits(100.0), bits(120.0));
        x.word(bits(9.0));
        run(x, 0, 0);
        openings(x, "day 1", 0.1, 0.0, 0.0, 0.0);
        x.word(bits(9.0));
        run(x, 0, 0);
        openings(x, "day 2", 0.0, 0.0, 0.0, 0.0);
        for (int step = 3; step <= 366; step++) {
            run(x, 0, -1.0);
        }
        due.is("unheard", x.about(1), 364);
        x.hand(0, bits(0.0));
        x.hand(1, bits(0.0));
        x.hand(2, bits(0.0));
        x.word(bits(9.0));
        due.is("step", run(x, 0, 0), 367);
        due.real("day 1 again", x.lake(OPENING + 3), 0.5 + (0.1 - 0.5));
    }

    private static void spillAndBounds() {
        ReservoirWall x = new ReservoirWall();
        run(x, 1000000.0, 1.0);
        for (int i = 0; i < 4; i++) {
            run(x, 1000000.0, 1.0);
        }
        double before = real(x.lake(VOLUME));
        double level = real(x.lake(LEVEL));
        due.is("above the sill", level > 30.0 ? 1 : 0, 1);
        run(x, 1000000.0, 1.0);
        double inflow = real(x.lake(INFLOW));
        double spill = (level - 30.0) * (level - 30.0) * 150.0;
        double out = real(x.lake(OUT));
        double to = before + inflow - out - spill;
        due.is("beyond the top", to > 1680000.0 ? 1 : 0, 1);
        due.real("top", x.lake(VOLUME), 1680000.0);
        due.real("what is beyond goes to spill", x.lake(SPILL), spill + (to - 1680000.0));
        due.real("lack", x.lake(LACK), 0.0);
        due.real("level", x.lake(LEVEL), 40.0);

        x = new ReservoirWall();
        for (int g = 0; g < 4; g++) {
            x.hand(g, bits(1.0));
        }
        double volume = 100000.0;
        for (int step = 1; step <= 60; step++) {
            double l = real(x.lake(LEVEL));
            run(x, 0, 0);
            double o = 400.0 * Math.sqrt(l);
            double v = volume - (o + o + o + o);
            due.real("out", x.lake(OUT), o + o + o + o);
            due.real("volume", x.lake(VOLUME), Math.max(v, 0.0));
            due.real("lack", x.lake(LACK), v < 0.0 ? -v : 0.0);
            due.real("spill", x.lake(SPILL), 0.0);
            volume = Math.max(v, 0.0);
        }
        due.real("empty", x.lake(VOLUME), 0.0);
        due.real("empty", x.lake(LEVEL), 0.0);
        due.real("nothing comes out", x.lake(OUT), 0.0);
        for (int g = 0; g < 4; g++) {
            x.hand(g, bits(0.0));
        }
        run(x, 2.0, 1.0);
        due.real("just above 0.0", x.lake(VOLUME), 0.5);
        due.real("no lack", x.lake(LACK), 0.0);
    }

    /** The root must be the nearest double for levels of every size. */
    private static void roots() {
        double[] levels = {Double.MIN_VALUE, 3 * Double.MIN_VALUE, 1e-310, Double.MIN_NORMAL, 1e-300, 1e-9, 0.1, 0.5, 1.0, 2.0, 3.0, 4.0,
            Math.nextDown(4.0), Math.nextUp(1.0), Math.nextDown(1.0), 7.7, 99.9, 100.0};
        ReservoirWall x = new ReservoirWall();
        x.rate(bits(1.0));
        double out = 1e-170;
        x.rule(0, 0, 365, bits(0.0), bits(1e-300), bits(out));
        x.rule(1, 0, 365, bits(0.0), bits(101.0), bits(100.0));
        for (double level : levels) {
            for (int g = 1; g < 4; g++) {
                x.hand(g, bits(0.0));
            }
            x.word(bits(level));
            run(x, 0, 0);
            double wish = level < 1e-300 ? out : 100.0;
            double want = Math.min(1.0, wish / full(level));
            double before = 0.0;
            due.real("opening at level " + level, x.lake(OPENING), before + want);
            x.hand(0, bits(0.0));
            run(x, 0, 0);
            x.hand(0, NO_NUMBER);
        }
    }

    public static void main(String[] args) {
        tableAndTurned();
        wrongInputs();
        snowAndGround();
        voices();
        jumps();
        hangs();
        words();
        steering();
        unheard();
        stuckAndHands();
        daysOfRules();
        spillAndBounds();
        roots();
        due.end();
    }
}
