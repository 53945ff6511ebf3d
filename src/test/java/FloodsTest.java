/** Promises 68 to 75. */
public final class FloodsTest {
    private static final int NONE = ReservoirWall.NONE, UNKNOWN = ReservoirWall.UNKNOWN, OUTSIDE = ReservoirWall.OUTSIDE;
    private static final long NO_NUMBER = 0x7FF8000000000000L, OTHER_NO_NUMBER = 0x7FF0000000000001L;

    private static final Due due = new Due("FloodsTest");

    private static long bits(double d) {
        return Double.doubleToRawLongBits(d);
    }

    private static void ahead(ReservoirWall x, int run, double... inflows) {
        for (int h = 0; h < inflows.length; h++) {
            due.is("ahead", x.ahead(run, h, bits(inflows[h])), 1);
        }
    }

    private static void wrongInputs() {
        ReservoirWall x = new ReservoirWall();
        due.is("hours 0", x.hours(0), OUTSIDE);
        due.is("hours 13", x.hours(13), OUTSIDE);
        due.is("hours", x.hours(1), 12);
        due.is("hours", x.hours(12), 1);
        due.is("run 6", x.ahead(6, 99, 0), UNKNOWN);
        due.is("run -1", x.ahead(-1, 0, 0), UNKNOWN);
        due.is("hour 12", x.ahead(0, 12, 0), OUTSIDE);
        due.is("hour -1", x.ahead(0, -1, 0), OUTSIDE);
        due.is("inflow below", x.ahead(0, 0, bits(-1.0)), OUTSIDE);
        due.is("inflow above", x.ahead(0, 0, bits(1000001.0)), OUTSIDE);
        due.is("release 8", x.release(8, 0), UNKNOWN);
        due.is("release -1", x.release(-1, 0), UNKNOWN);
        due.is("release below", x.release(0, bits(-1.0)), OUTSIDE);
        due.is("release above", x.release(0, bits(1000001.0)), OUTSIDE);
        due.is("routed without a release", x.routed(0, 0, 99), UNKNOWN);
        due.is("regret without a release", x.regret(0), UNKNOWN);
        due.is("regret 8", x.regret(8), UNKNOWN);
        due.is("regret -1", x.regret(-1), UNKNOWN);
        due.is("release", x.release(0, bits(1000000.0)), 1);
        due.is("routed run 6", x.routed(6, 0, 0), UNKNOWN);
        due.is("routed run -1", x.routed(-1, 0, 0), UNKNOWN);
        due.is("routed release 8", x.routed(0, 8, 0), UNKNOWN);
        due.is("routed hour 12", x.routed(0, 0, 12), OUTSIDE);
        due.is("routed hour -1", x.routed(0, 0, -1), OUTSIDE);
        due.is("routed lacks", x.routed(0, 0, 11), NO_NUMBER);
        x.hours(3);
        due.is("routed hour 3 of 3", x.routed(0, 0, 3), OUTSIDE);
        due.is("peak 6", x.peak(6), UNKNOWN);
        due.is("peak -1", x.peak(-1), UNKNOWN);
        due.is("peak lacks", x.peak(0), NONE);
        due.is("chance part 2", x.chance(0, 2), OUTSIDE);
        due.is("chance part -1", x.chance(0, -1), OUTSIDE);
        due.is("chance no number", x.chance(OTHER_NO_NUMBER, 0), OUTSIDE);
    }

    private static void routing() {
        ReservoirWall x = new ReservoirWall();
        x.hours(3);
        ahead(x, 0, 500000.0, 600000.0, 0.0);
        ahead(x, 1, 0.0, 0.0, 1000000.0);
        x.release(0, bits(100000.0));
        x.release(7, bits(0.0));
        due.real("hour 0", x.routed(0, 0, 0), 500000.0);
        due.real("hour 1", x.routed(0, 0, 1), 1000000.0);
        due.real("hour 2", x.routed(0, 0, 2), 900000.0);
        due.real("0.0 if below", x.routed(1, 0, 1), 0.0);
        due.real("then on", x.routed(1, 0, 2), 900000.0);
        due.real("no release", x.routed(0, 7, 1), 1200000.0);
        due.real("regret", x.regret(0), 40000.0 * 40000.0 + 1000000.0);
        due.real("regret", x.regret(7), 240000.0 * 240000.0);
        due.is("chosen", x.chosen(), 0);
        x.release(3, bits(1000000.0));
        due.real("regret of a great one", x.regret(3), 10000000.0);
        due.is("chosen", x.chosen(), 3);
        x.release(3, OTHER_NO_NUMBER);
        due.is("not there", x.regret(3), UNKNOWN);
        due.is("chosen again", x.chosen(), 0);
        x.hours(1);
        due.real("of one hour", x.regret(0), 1000000.0);
        due.real("of one hour", x.regret(7), 0.0);
        due.is("chosen", x.chosen(), 7);
        x.hours(4);
        due.is("now they lack", x.routed(0, 0, 0), NO_NUMBER);
        due.real("all lack", x.regret(0), 0.0);
        due.is("of like ones the lesser x", x.chosen(), 7);
        x.release(2, bits(-0.0));
        due.is("of like x the lesser number", x.chosen(), 2);
        x.release(1, bits(0.0));
        due.is("of like x the lesser number", x.chosen(), 1);

        x = new ReservoirWall();
        x.hours(1);
        x.run(bits(400000.0), bits(1.0));
        ahead(x, 0, 860000.0);
        x.release(0, bits(0.5));
        due.real("the volume as it is now", x.routed(0, 0, 0), 200000.0 + 860000.0 - 0.5);
        due.real("regret", x.regret(0), 99999.5 * 99999.5 + 5.0);
        due.is("chosen of one", x.chosen(), 0);

        x = new ReservoirWall();
        x.hours(2);
        ahead(x, 0, 0.0, 0.25);
        x.release(0, bits(99999.5));
        due.real("just above 0.0", x.routed(0, 0, 0), 0.5);
        due.real("just below 0.0", x.routed(0, 0, 1), 0.0);
    }

    private static void peaksAndChances() {
        ReservoirWall x = new ReservoirWall();
        x.hours(3);
        ahead(x, 0, 5.0, 9.0, 9.0);
        ahead(x, 1, 0.0, -0.0, 0.0);
        ahead(x, 2, 1.0, 2.0, 3.0);
        ahead(x, 3, 100.0, 100.0);
        due.is("the first of like ones", x.peak(0), 1);
        due.is("0.0 and -0.0", x.peak(1), 0);
        due.is("the last", x.peak(2), 2);
        due.is("lacks", x.peak(3), NONE);
        due.is("of how many", x.chance(bits(0.0), 1), 3);
        due.is("above 0", x.chance(bits(0.0), 0), 2);
        due.is("above -1", x.chance(bits(-1.0), 0), 3);
        due.is("not above itself", x.chance(bits(9.0), 0), 0);
        due.is("above 3", x.chance(bits(3.0), 0), 1);
        due.is("above endless", x.chance(bits(Double.POSITIVE_INFINITY), 0), 0);
        due.is("above endless below", x.chance(bits(Double.NEGATIVE_INFINITY), 0), 3);
        x.hours(2);
        due.is("fewer hours", x.peak(2), 1);
        due.is("fewer hours", x.chance(bits(2.5), 0), 2);
        due.is("fewer hours, more runs", x.chance(bits(2.5), 1), 4);
        due.is("taken out", x.ahead(0, 1, NO_NUMBER), 1);
        due.is("it lacks now", x.chance(bits(2.5), 1), 3);
        due.is("hours beyond are kept", x.ahead(3, 11, bits(7.0)), 1);
        x.hours(12);
        due.is("all lack", x.chance(bits(0.0), 1), 0);
    }

    public static void main(String[] args) {
        wrongInputs();
        routing();
        peaksAndChances();
        due.end();
    }
}
