/** Promises 43 to 49. */
public final class ActsTest {
    private static final int NULL = -2000000011, INDEX = -2000000012, ARITHMETIC = -2000000016, HELD = -2000000017, WORD = -2000000018;
    private static final int NONE = ReservoirWall.NONE, UNKNOWN = ReservoirWall.UNKNOWN, OUTSIDE = ReservoirWall.OUTSIDE, FULL = ReservoirWall.FULL;
    private static final int PUT = 0, TAKE = 1, FAIL = 2, HOLD = 3, TURN = 4, SIGNAL = 5, DO = 6, TRY = 7, ANSWER = 8, SUM = 9;
    private static final long MOST = 1000000000000000L;

    private static final Due due = new Due("ActsTest");

    private static void raised(ReservoirWall x, String what, int... want) {
        for (int i = 0; i < want.length; i++) {
            due.is(what + ": raised(" + i + ")", x.raised(i), want[i]);
        }
    }

    private static void step() {
        ReservoirWall x = new ReservoirWall();
        due.is("plan -1", x.step(-1, 99, 0, 0, 0, 0), UNKNOWN);
        due.is("plan 12", x.step(12, 0, 0, 0, 0, 0), UNKNOWN);
        int[][] outside = {{-1, 0, 0, 0, 0}, {10, 0, 0, 0, 0}, {TAKE, -1, 0, 0, 0}, {TAKE, 1000000001, 0, 0, 0},
            {FAIL, 0, 0, 0, 0}, {FAIL, 9, 0, 0, 0}, {FAIL, 1, -1, 0, 0}, {FAIL, 8, 100, 0, 0}, {HOLD, -1, 0, 0, 0}, {HOLD, 4, 0, 0, 0},
            {TURN, -1, 0, 0, 0}, {TURN, 4, 0, 0, 0}, {DO, -1, 0, 0, 0}, {DO, 12, 0, 0, 0}, {TRY, -1, 0, 0, 0}, {TRY, 12, 0, 0, 0},
            {TRY, 0, -1, 0, 0}, {TRY, 0, 10, 0, 0}, {TRY, 0, 0, -2, 0}, {TRY, 0, 0, 12, 0}, {TRY, 0, 0, 0, -2}, {TRY, 0, 0, 0, 12}};
        for (int[] s : outside) {
            due.is("step " + java.util.Arrays.toString(s), x.step(0, s[0], s[1], s[2], s[3], s[4]), OUTSIDE);
        }
        int far = Integer.MAX_VALUE;
        int[][] fine = {{PUT, far, -far, far, far}, {TAKE, 0, far, far, far}, {TAKE, 1000000000, -far, far, far}, {FAIL, 1, 99, far, far},
            {HOLD, 3, far, far, far}, {TURN, 0, far, far, far}, {SIGNAL, far, far, far, far}, {DO, 11, far, far, far},
            {TRY, 11, 9, -1, 11}, {TRY, 0, 0, 11, -1}, {ANSWER, -far, far, far, far}, {SUM, far, -far, far, far}};
        for (int i = 0; i < fine.length; i++) {
            int[] s = fine[i];
            due.is("step " + java.util.Arrays.toString(s), x.step(1, s[0], s[1], s[2], s[3], s[4]), i + 1);
        }
        due.is("13th step", x.step(1, PUT, 0, 0, 0, 0), FULL);
        due.is("outside ahead of full", x.step(1, 10, 0, 0, 0, 0), OUTSIDE);
        due.is("another plan", x.step(11, PUT, 0, 0, 0, 0), 1);
        due.is("wipe", x.wipe(1), 12);
        due.is("wipe again", x.wipe(1), 0);
        due.is("wiped alone", x.wipe(11), 1);
        due.is("wipe unknown", x.wipe(12), UNKNOWN);
        due.is("wipe unknown", x.wipe(-1), UNKNOWN);
        due.is("a step again", x.step(1, PUT, 0, 0, 0, 0), 1);
        due.is("act unknown", x.act(12), UNKNOWN);
        due.is("act unknown", x.act(-1), UNKNOWN);
    }

    private static void puts() {
        ReservoirWall x = new ReservoirWall();
        x.row(5, 2);
        x.row(3, 1);
        x.step(0, PUT, 0, 1, 300, 0);
        x.step(0, PUT, 1, 0, 7, 0);
        due.is("act", x.act(0), 0);
        raised(x, "done", 0, 0, 0, 2, 0);
        due.is("its lowest bits", x.get(0, 1), 44);
        due.real("a real", x.getReal(1, 0), 7.0);
        x.step(0, PUT, 0, 0, 1, 0);
        x.step(0, PUT, 0, 1, 2, 0);
        x.step(0, PUT, 0, 1, 3, 0);
        x.step(0, PUT, 2, 0, 1, 0);
        due.is("unknown rows are null", x.act(0), NULL);
        raised(x, "null", 1, 0, 0, 6, 0);
        due.is("rows as before", x.get(0, 0), 0);
        due.is("rows as before", x.get(0, 1), 44);
        x.wipe(0);
        x.step(0, PUT, -1, 0, 1, 0);
        due.is("none is null", x.act(0), NULL);
        x.step(1, PUT, 0, 2, 1, 0);
        due.is("no such cell", x.act(1), INDEX);
        x.step(2, PUT, 0, -1, 1, 0);
        due.is("no such cell", x.act(2), INDEX);
    }

    private static void stockAndSums() {
        ReservoirWall x = new ReservoirWall();
        due.is("stock", x.stock(100), 0);
        due.is("stock", x.stock(MOST), 100);
        due.is("stock outside", x.stock(MOST + 1), OUTSIDE);
        due.is("stock outside", x.stock(-1), OUTSIDE);
        due.is("stock", x.stock(50), MOST);
        x.step(0, TAKE, 50, 0, 0, 0);
        x.step(0, TAKE, 0, 0, 0, 0);
        due.is("take all", x.act(0), 0);
        due.is("nothing left", x.stock(49), 0);
        due.is("not so many", x.act(0), WORD);
        raised(x, "take", 8, 1, 0, 1, 0);
        due.is("stock stays", x.stock(60), 49);

        x.step(1, SUM, -7, 2, 0, 0);
        due.is("sum", x.act(1), 0);
        due.is("cut, and more", x.stock(2), 57);
        due.is("below 0", x.act(1), WORD);
        raised(x, "sum", 8, 2, 0, 1, 0);
        x.stock(MOST);
        x.step(2, SUM, 1, 1, 0, 0);
        due.is("beyond", x.act(2), WORD);
        raised(x, "sum", 8, 2, 0, 1, 0);
        due.is("stays", x.stock(0), MOST);
        x.step(3, SUM, Integer.MIN_VALUE, -1, 0, 0);
        due.is("as longs", x.act(3), 0);
        due.is("as longs", x.stock(9), 2147483648L);
        x.step(4, TAKE, 4, 0, 0, 0);
        x.step(4, SUM, 1, 0, 0, 0);
        due.is("by 0", x.act(4), ARITHMETIC);
        raised(x, "by 0", 6, 0, 0, 2, 0);
        due.is("stock as before", x.stock(0), 9);
    }

    private static void fails() {
        ReservoirWall x = new ReservoirWall();
        for (int a = 1; a <= 8; a++) {
            x.wipe(0);
            x.step(0, FAIL, a, 77, 0, 0);
            due.is("fail " + a, x.act(0), -2000000010 - a);
            raised(x, "fail " + a, a, a == 8 ? 77 : 0, 0, 1, 0);
        }
    }

    private static void holdsAndTurns() {
        ReservoirWall x = new ReservoirWall();
        x.step(0, TURN, 2, 10, 0, 0);
        due.is("not held", x.act(0), HELD);
        raised(x, "held", 7, 0, 0, 1, 0);
        x.step(1, HOLD, 2, 0, 0, 0);
        x.step(1, HOLD, 2, 0, 0, 0);
        x.step(1, DO, 0, 0, 0, 0);
        x.step(1, TURN, 3, 10, 0, 0);
        due.is("held by the plan above, another is not", x.act(1), HELD);
        due.is("notches stay", x.gate(2, 1), 10);
        due.is("no hold is left", x.gate(2, 0), 0);
        x.step(2, DO, 3, 0, 0, 0);
        x.step(2, TURN, 0, 1, 0, 0);
        x.step(3, HOLD, 0, 0, 0, 0);
        due.is("let go when its plan is left", x.act(2), HELD);
        x.wipe(0);
        x.step(0, HOLD, 1, 0, 0, 0);
        x.step(0, TURN, 1, Integer.MAX_VALUE, 0, 0);
        x.step(0, TURN, 1, Integer.MAX_VALUE, 0, 0);
        due.is("turn far", x.act(0), 0);
        due.is("at most 100", x.gate(1, 1), 100);
        x.wipe(0);
        x.step(0, HOLD, 1, 0, 0, 0);
        x.step(0, TURN, 1, -30, 0, 0);
        x.step(0, ANSWER, 5, 0, 0, 0);
        due.is("answered", x.act(0), 1);
        due.is("turned", x.gate(1, 1), 70);
        due.is("let go", x.gate(1, 0), 0);
        x.wipe(0);
        x.step(0, HOLD, 1, 0, 0, 0);
        x.step(0, TURN, 1, Integer.MIN_VALUE, 0, 0);
        due.is("turn back", x.act(0), 0);
        due.is("at least 0", x.gate(1, 1), 0);
        due.is("gate unknown", x.gate(4, 9), UNKNOWN);
        due.is("gate unknown", x.gate(-1, 0), UNKNOWN);
        due.is("gate outside", x.gate(0, 2), OUTSIDE);
        due.is("gate outside", x.gate(0, -1), OUTSIDE);
    }

    private static void signals() {
        ReservoirWall x = new ReservoirWall();
        for (int i = 0; i < 12; i++) {
            x.step(0, SIGNAL, i == 3 ? -1 : 100 + i, 0, 0, 0);
        }
        x.step(1, SIGNAL, 55, 0, 0, 0);
        x.step(1, FAIL, 1, 0, 0, 0);
        due.is("signal and fail", x.act(1), NULL);
        due.is("signals stay", x.about(7), 1);
        for (int i = 0; i < 5; i++) {
            due.is("signals", x.act(0), 0);
        }
        due.is("60 at most", x.about(7), 60);
        due.is("signal 0", x.signal(0), 55);
        due.is("signal 1", x.signal(1), 100);
        due.is("signal 4", x.signal(4), -1);
        due.is("signal 59", x.signal(59), 110);
        due.is("no such", x.signal(60), NONE);
        due.is("no such", x.signal(-1), NONE);
    }

    private static void tries() {
        ReservoirWall x = new ReservoirWall();
        x.step(1, FAIL, 7, 0, 0, 0);
        x.step(2, FAIL, 8, 33, 0, 0);
        x.step(3, SIGNAL, 3, 0, 0, 0);
        x.step(4, SIGNAL, 4, 0, 0, 0);
        int[][] caught = {{1, 0, 1}, {1, 7, 1}, {1, 9, 1}, {1, 8, 0}, {1, 1, 0}, {2, 0, 1}, {2, 8, 1}, {2, 9, 0}, {2, 7, 0}};
        int signals = 0;
        for (int[] c : caught) {
            x.wipe(0);
            x.step(0, TRY, c[0], c[1], 3, 4);
            x.step(0, SIGNAL, 5, 0, 0, 0);
            due.is("try " + java.util.Arrays.toString(c), x.act(0), c[2] == 1 ? 0 : c[0] == 1 ? HELD : WORD);
            raised(x, "try", c[2] == 1 ? 0 : c[0] == 1 ? 7 : 8, c[2] == 0 && c[0] == 2 ? 33 : 0, 0, c[2] == 1 ? 5 : 3, 0);
            if (c[2] == 1) {
                due.is("c is done", x.signal(signals++), 3);
            }
            due.is("d is done in any case", x.signal(signals++), 4);
            if (c[2] == 1) {
                due.is("goes on", x.signal(signals++), 5);
            }
            due.is("no more", x.about(7), signals);
        }
    }

    private static void putBy() {
        ReservoirWall x = new ReservoirWall();
        x.step(1, FAIL, 6, 0, 0, 0);
        x.step(2, ANSWER, 22, 0, 0, 0);
        x.step(3, FAIL, 8, 3, 0, 0);
        x.step(4, SIGNAL, 1, 0, 0, 0);
        int[][] tries = {
            // a, b, c, d: the answer due, raised(0), (1), (2), (3), (4)
            {1, 0, -1, -1, 0, 0, 0, 0, 2, 0},
            {1, 5, -1, -1, ARITHMETIC, 6, 0, 0, 2, 0},
            {1, 5, -1, 2, 1, 0, 0, 22, 3, 1},
            {1, 5, -1, 3, WORD, 8, 3, 0, 3, 1},
            {1, 0, 3, 2, 1, 0, 0, 22, 4, 1},
            {1, 0, 2, 3, WORD, 8, 3, 0, 4, 1},
            {1, 0, 2, 4, 1, 0, 0, 22, 4, 0},
            {2, 0, 3, 4, 1, 0, 0, 22, 3, 0},
            {2, 0, -1, 3, WORD, 8, 3, 0, 3, 1},
            {4, 0, 3, 2, 1, 0, 0, 22, 3, 0},
            {4, 0, 3, 1, ARITHMETIC, 6, 0, 0, 3, 0},
        };
        for (int[] t : tries) {
            x.wipe(0);
            x.step(0, TRY, t[0], t[1], t[2], t[3]);
            due.is("try " + java.util.Arrays.toString(t), x.act(0), t[4]);
            raised(x, "try " + java.util.Arrays.toString(t), t[5], t[6], t[7], t[8], t[9]);
        }
        // What is put by in a try within goes on to the outer one.
        x.wipe(0);
        x.step(0, TRY, 5, 0, -1, 3);
        x.step(5, TRY, 2, 0, -1, 2);
        due.is("twice", x.act(0), WORD);
        raised(x, "twice", 8, 3, 0, 5, 2);
        // A failure that d itself catches puts nothing by and leaves the word of the one under way.
        x.wipe(0);
        x.wipe(5);
        x.step(0, TRY, 3, 1, -1, 5);
        x.step(5, TRY, 6, 0, -1, -1);
        x.step(6, FAIL, 8, 99, 0, 0);
        due.is("kept", x.act(0), WORD);
        raised(x, "kept", 8, 3, 0, 4, 0);
    }

    private static void givesBack() {
        ReservoirWall x = new ReservoirWall();
        x.row(1, 2);
        x.bed(1, 1, -1);
        x.lay(0, 0, 0);
        x.stock(10);
        x.step(0, PUT, 0, 0, 5, 0);
        x.step(0, TAKE, 3, 0, 0, 0);
        x.step(0, TRY, 1, 0, -1, -1);
        x.step(1, PUT, 0, 1, 6, 0);
        x.step(1, TAKE, 3, 0, 0, 0);
        x.step(1, FAIL, 2, 0, 0, 0);
        due.is("a failure that is caught gives nothing back", x.act(0), 0);
        due.is("cell", x.get(0, 0), 5);
        due.is("cell", x.get(0, 1), 6);
        due.is("stock", x.stock(10), 4);
        x.put(0, 0, 1);
        x.put(0, 1, 2);
        x.step(0, FAIL, 3, 0, 0, 0);
        due.is("a failure that comes out gives all back", x.act(0), -2000000013);
        due.is("cell", x.get(0, 0), 1);
        due.is("cell of the strip, too", x.spot(0, 0, 1), 2);
        due.is("stock", x.stock(0), 10);
    }

    private static void depths() {
        ReservoirWall x = new ReservoirWall();
        for (int p = 0; p < 7; p++) {
            x.step(p, DO, p + 1, 0, 0, 0);
        }
        due.is("8 deep", x.act(0), 0);
        raised(x, "8 deep", 0, 0, 0, 7, 0);
        x.step(7, DO, 8, 0, 0, 0);
        due.is("9 deep, though it has no steps", x.act(0), WORD);
        raised(x, "9 deep", 8, 3, 0, 8, 0);
        x.wipe(7);
        x.step(7, TRY, 8, 8, -1, -1);
        due.is("9 deep, caught", x.act(0), 0);
        raised(x, "caught", 0, 0, 0, 8, 0);
        x.wipe(7);
        x.step(7, TRY, 8, 8, 8, 8);
        due.is("9 deep, three times", x.act(0), WORD);
        raised(x, "three times", 8, 3, 0, 8, 1);
    }

    private static void manySteps() {
        ReservoirWall x = new ReservoirWall();
        for (int i = 0; i < 4; i++) {
            x.step(0, DO, 1, 0, 0, 0);
        }
        for (int i = 0; i < 11; i++) {
            x.step(1, SIGNAL, 1, 0, 0, 0);
        }
        due.is("48 steps", x.act(0), 0);
        raised(x, "48 steps", 0, 0, 0, 48, 0);
        x.step(0, SIGNAL, 9, 0, 0, 0);
        due.is("49 steps", x.act(0), WORD);
        raised(x, "49 steps", 8, 3, 0, 48, 0);
        x.wipe(0);
        x.step(0, TRY, 2, 0, 3, 4);
        for (int i = 0; i < 5; i++) {
            x.step(2, DO, 1, 0, 0, 0);
        }
        due.is("49 steps, caught; c and d have none", x.act(0), 0);
        raised(x, "caught", 0, 0, 0, 48, 0);
        x.step(3, HOLD, 2, 0, 0, 0);
        due.is("c would do the next", x.act(0), WORD);
        raised(x, "c", 8, 3, 0, 48, 0);
        due.is("a hold that was not done is not let go", x.gate(2, 0), 0);
        x.step(4, SIGNAL, 1, 0, 0, 0);
        due.is("d, too", x.act(0), WORD);
        raised(x, "d", 8, 3, 0, 48, 1);
    }

    private static void raisedItself() {
        ReservoirWall x = new ReservoirWall();
        due.is("outside", x.raised(5), OUTSIDE);
        due.is("outside", x.raised(-1), OUTSIDE);
        x.step(0, ANSWER, 0x7FFFFFFF, 0, 0, 0);
        due.is("answered", x.act(0), 1);
        x.get(NONE, 0);
        raised(x, "another call has failed since", 1, 0, 0x7FFFFFFF, 1, 0);
        x.act(99);
        raised(x, "a refused act is none", 1, 0, 0x7FFFFFFF, 1, 0);
        x.card();
        x.thing(0, 0);
        x.stock(1);
        x.like(NONE, NONE);
        x.isA(0, 0);
        x.open();
        x.run(0, 0);
        due.is("calls that can't fail leave it", x.raised(0), 1);
        x.table(3);
        due.is("one that could does not", x.raised(0), 0);
        x.wipe(0);
        x.step(0, ANSWER, -1, 0, 0, 0);
        x.act(0);
        due.is("an answer below 0", x.raised(2), -1);
        x.act(1);
        due.is("without", x.raised(2), 0);
    }

    public static void main(String[] args) {
        step();
        puts();
        stockAndSums();
        fails();
        holdsAndTurns();
        signals();
        tries();
        putBy();
        givesBack();
        depths();
        manySteps();
        raisedItself();
        due.end();
    }
}
