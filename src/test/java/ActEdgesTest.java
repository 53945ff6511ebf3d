import java.util.Arrays;
import java.util.function.Consumer;

/** The edges of part 3 and of promises 43 to 49. */
public final class ActEdgesTest {
    private static final int NULL = Edges.NULL, INDEX = Edges.INDEX, SIZE = Edges.SIZE, ARITHMETIC = Edges.ARITHMETIC, HELD = Edges.HELD, WORD = Edges.WORD;
    private static final int NONE = ReservoirWall.NONE, FAILED = ReservoirWall.FAILED;
    private static final int MIN = Integer.MIN_VALUE, MAX = Integer.MAX_VALUE;
    private static final int PUT = 0, TAKE = 1, FAIL = 2, HOLD = 3, TURN = 4, SIGNAL = 5, DO = 6, TRY = 7, ANSWER = 8, SUM = 9;
    private static final long MOST = 1000000000000000L;

    private static final Due due = new Due("ActEdgesTest");
    private static final Edges at = new Edges(due, UsedWall::build);

    /** A PLAN's STEP: the PLAN, op, a, b, c, d (what is not written is 0). */
    private static void steps(ReservoirWall x, int[]... steps) {
        for (int[] s : steps) {
            int[] t = Arrays.copyOf(s, 6);
            x.step(t[0], t[1], t[2], t[3], t[4], t[5]);
        }
    }

    private static int[] s(int... step) {
        return step;
    }

    private static ReservoirWall wall(int[]... steps) {
        ReservoirWall x = new ReservoirWall();
        steps(x, steps);
        return x;
    }

    /** act(0) of an object: its answer, and raised(0) to raised(4). */
    private static void acts(String when, ReservoirWall x, int answer, int... raised) {
        due.is(when + ": act(0)", x.act(0), answer);
        for (int what = 0; what < raised.length; what++) {
            due.is(when + ": raised(" + what + ")", x.raised(what), raised[what]);
        }
        for (int gate = 0; gate < 4; gate++) {
            due.is(when + ": no hold is left", x.gate(gate, 0), 0);
        }
    }

    private static void outsideSteps(int[]... steps) {
        for (int[] step : steps) {
            int[] t = Arrays.copyOf(step, 5);
            at.outside("step " + Arrays.toString(t), x -> x.step(3, t[0], t[1], t[2], t[3], t[4]));
        }
    }

    private static void fineSteps(int[]... steps) {
        for (int[] step : steps) {
            int[] t = Arrays.copyOf(step, 5);
            ReservoirWall x = at.sets("step " + Arrays.toString(t), 1, y -> y.step(3, t[0], t[1], t[2], t[3], t[4]));
            due.is("one step more", x.wipe(3), 1);
        }
    }

    private static void step() {
        for (int plan : new int[] {-1, 12, MIN, MAX}) {
            at.unknown("step: PLAN " + plan, x -> x.step(plan, SIGNAL, 1, 0, 0, 0));
            at.unknown("step: UNKNOWN ahead of OUTSIDE", x -> x.step(plan, 10, 1, 0, 0, 0));
            at.unknown("wipe: PLAN " + plan, x -> x.wipe(plan));
            at.unknown("act: PLAN " + plan, x -> x.act(plan));
        }
        outsideSteps(s(-1), s(10), s(MIN), s(MAX));
        outsideSteps(s(TAKE, -1), s(TAKE, 1000000001), s(TAKE, MIN), s(TAKE, MAX));
        fineSteps(s(TAKE, 0), s(TAKE, 1), s(TAKE, 1000000000), s(TAKE, 5, MIN, MAX, MIN));
        outsideSteps(s(FAIL, 0), s(FAIL, 9), s(FAIL, MIN), s(FAIL, MAX), s(FAIL, 0, 100));
        for (int a = 1; a <= 8; a++) {
            outsideSteps(s(FAIL, a, -1), s(FAIL, a, 100), s(FAIL, a, MIN), s(FAIL, a, MAX));
            fineSteps(s(FAIL, a, 0), s(FAIL, a, 99), s(FAIL, a, 5, MIN, MAX));
        }
        for (int op : new int[] {HOLD, TURN}) {
            outsideSteps(s(op, -1), s(op, 4), s(op, MIN), s(op, MAX));
            fineSteps(s(op, 0), s(op, 3), s(op, 1, MIN, MAX, MIN), s(op, 1, MAX));
        }
        outsideSteps(s(DO, -1), s(DO, 12), s(DO, MIN), s(DO, MAX));
        fineSteps(s(DO, 0), s(DO, 11), s(DO, 3, MIN, MAX, MIN));
        outsideSteps(s(TRY, -1), s(TRY, 12), s(TRY, MIN), s(TRY, MAX), s(TRY, 0, -1), s(TRY, 0, 10), s(TRY, 0, MIN), s(TRY, 0, MAX));
        outsideSteps(s(TRY, 0, 0, -2), s(TRY, 0, 0, 12), s(TRY, 0, 0, MIN), s(TRY, 0, 0, MAX));
        outsideSteps(s(TRY, 0, 0, 0, -2), s(TRY, 0, 0, 0, 12), s(TRY, 0, 0, 0, MIN), s(TRY, 0, 0, 0, MAX));
        fineSteps(s(TRY, 0, 0, -1, -1), s(TRY, 11, 9, 11, 11), s(TRY, 0, 1, 0, 0));
        fineSteps(s(PUT, MIN, MAX, MIN, MAX), s(SIGNAL, MIN, MAX, MIN, MAX), s(SIGNAL, MAX), s(ANSWER, MIN, MAX, MIN, MAX), s(SUM, MIN, MAX, MIN, MAX));
        fineSteps(s(SUM, 1, 0), s(PUT, -1, -1));

        for (int plan : new int[] {4, 11}) {
            Edges eleven = at.behind(x -> signals(x, plan, 11));
            Edges twelve = at.behind(x -> signals(x, plan, 12));
            ReservoirWall x = eleven.sets("step: the 12th", 12, y -> y.step(plan, SIGNAL, 1, 0, 0, 0));
            due.is("wipe of 12", x.wipe(plan), 12);
            due.is("wipe again", x.wipe(plan), 0);
            due.is("a first one again", x.step(plan, SIGNAL, 1, 0, 0, 0), 1);
            twelve.full("step: the 13th", y -> y.step(plan, SIGNAL, 1, 0, 0, 0));
            twelve.outside("step: OUTSIDE ahead of FULL", y -> y.step(plan, TAKE, -1, 0, 0, 0));
            twelve.outside("step: OUTSIDE ahead of FULL", y -> y.step(plan, 10, 0, 0, 0, 0));
            twelve.sets("step: another PLAN is not FULL", 1, y -> y.step(5, SIGNAL, 1, 0, 0, 0));
            twelve.sets("wipe: all of them", 12, y -> y.wipe(plan));
        }
        for (int plan : new int[] {0, 11}) {
            ReservoirWall x = wall(s(plan, SIGNAL, 5));
            due.is("act: PLAN " + plan, x.act(plan), 0);
            due.is("it was done", x.signal(0), 5);
            due.is("act: another PLAN", x.act(11 - plan), 0);
            due.is("it has no STEPS", x.about(7), 1);
        }
        at.tells("wipe: none", 0, x -> x.wipe(3));
        at.sets("wipe: PLAN 0", 3, x -> x.wipe(0));
    }

    private static void signals(ReservoirWall x, int plan, int n) {
        for (int i = 0; i < n; i++) {
            x.step(plan, SIGNAL, i, 0, 0, 0);
        }
    }

    private static void stockAndGates() {
        for (long n : new long[] {-1, MOST + 1, Long.MIN_VALUE, Long.MAX_VALUE}) {
            at.outside("stock: " + n, x -> x.stock(n));
        }
        for (long n : new long[] {0, 1, MOST - 1, MOST}) {
            ReservoirWall x = at.sets("stock: " + n, 993, y -> y.stock(n));
            due.is("it became " + n, x.stock(0), n);
        }
        for (int gate : new int[] {-1, 4, MIN, MAX}) {
            at.unknown("gate: GATE " + gate, x -> x.gate(gate, 0));
            at.unknown("gate: UNKNOWN ahead of OUTSIDE", x -> x.gate(gate, 2));
        }
        for (int what : new int[] {-1, 2, MIN, MAX}) {
            at.outside("gate: what " + what, x -> x.gate(0, what));
        }
        at.tells("gate: DEPTH", 0, x -> x.gate(2, 0));
        at.tells("gate: NOTCHES", 30, x -> x.gate(2, 1));
        at.tells("gate: NOTCHES of the last", 0, x -> x.gate(3, 1));
        at.tells("signal: the first", -8, x -> x.signal(0));
        for (int i : new int[] {-1, 1, 59, 60, MIN, MAX}) {
            at.tells("signal: " + i, NONE, x -> x.signal(i));
        }
        for (int what : new int[] {-1, 5, MIN, MAX}) {
            at.outside("raised: what " + what, x -> x.raised(what));
        }
    }

    /** NOTCHES from one to another, by TURN. */
    private static void turns(int from, int by, int to) {
        ReservoirWall x = wall(s(0, HOLD, 3), s(0, TURN, 3, from), s(0, TURN, 3, by));
        acts("turn from " + from + " by " + by, x, 0, 0, 0, 0, 3, 0);
        due.is("notches from " + from + " by " + by, x.gate(3, 1), to);
        due.is("notches of another", x.gate(2, 1), 0);
    }

    private static void holdsAndTurns() {
        turns(99, 1, 100);
        turns(99, 2, 100);
        turns(100, 1, 100);
        turns(100, -1, 99);
        turns(1, -1, 0);
        turns(1, -2, 0);
        turns(0, -1, 0);
        turns(0, 100, 100);
        turns(0, 101, 100);
        turns(100, -100, 0);
        turns(100, -101, 0);
        turns(50, MAX, 100);
        turns(50, MIN, 0);
        turns(50, 0, 50);
        for (int gate = 0; gate < 4; gate++) {
            acts("turn without a hold", wall(s(0, TURN, gate, 5)), FAILED - HELD, HELD, 0, 0, 1, 0);
            ReservoirWall x = wall(s(0, HOLD, gate), s(0, TURN, gate, 5), s(0, TURN, (gate + 1) % 4, 5));
            acts("another gate is not held", x, FAILED - HELD, HELD, 0, 0, 3, 0);
            due.is("notches stay", x.gate(gate, 1), 5);
            due.is("the other was not turned", x.gate((gate + 1) % 4, 1), 0);
        }
        ReservoirWall x = wall(s(0, HOLD, 0), s(0, DO, 1), s(0, TURN, 0, 5), s(1, HOLD, 0), s(1, TURN, 0, 7));
        acts("held twice, let go once", x, 0, 0, 0, 0, 5, 0);
        due.is("turned twice", x.gate(0, 1), 12);
        x = wall(s(0, DO, 1), s(0, TURN, 0, 5), s(1, HOLD, 0), s(1, TURN, 0, 7));
        acts("let go when its PLAN is done", x, FAILED - HELD, HELD, 0, 0, 4, 0);
        x = wall(s(0, TRY, 1, 0, NONE, 2), s(1, HOLD, 0), s(1, FAIL, 1), s(2, TURN, 0, 5));
        acts("let go when its PLAN fails, ahead of d", x, FAILED - HELD, HELD, 0, 0, 4, 0);
        x = wall(s(0, TRY, 1, 0, 2, NONE), s(1, HOLD, 0), s(1, FAIL, 1), s(2, TURN, 0, 5));
        acts("let go when its PLAN fails, ahead of c", x, FAILED - HELD, HELD, 0, 0, 4, 0);
        x = wall(s(0, TRY, 1, 0, NONE, 2), s(1, HOLD, 0), s(1, ANSWER, 9), s(2, TURN, 0, 5));
        acts("let go when its PLAN ANSWERS", x, FAILED - HELD, HELD, 0, 0, 4, 1);
        x = wall(s(0, HOLD, 0), s(0, TRY, 1, 0, 2, 3), s(1, FAIL, 1), s(2, TURN, 0, 5), s(3, TURN, 0, 6));
        acts("held by the PLAN in which TRY stands", x, 0, 0, 0, 0, 5, 0);
        due.is("turned by both", x.gate(0, 1), 11);
        x = wall(s(0, TURN, 0, 5), s(0, HOLD, 0));
        acts("a hold behind comes too late", x, FAILED - HELD, HELD, 0, 0, 1, 0);
        x = wall(s(0, HOLD, 0), s(0, HOLD, 0), s(0, HOLD, 0), s(0, HOLD, 1));
        acts("many holds", x, 0, 0, 0, 0, 4, 0);
        x = wall(s(0, HOLD, 0), s(0, TURN, 0, 40), s(0, FAIL, 5));
        acts("a failure leaves NOTCHES", x, FAILED - 5, 5, 0, 0, 3, 0);
        due.is("NOTCHES stay", x.gate(0, 1), 40);
    }

    private static void takesAndSums() {
        long[][] takes = {{0, 0, 0}, {0, 1, -1}, {5, 4, 1}, {5, 5, 0}, {5, 6, -1}, {1000000000L, 1000000000, 0}, {999999999L, 1000000000, -1}, {MOST, 1000000000, MOST - 1000000000L}};
        for (long[] t : takes) {
            ReservoirWall x = wall(s(0, TAKE, (int) t[1]));
            x.stock(t[0]);
            if (t[2] < 0) {
                acts("take " + t[1] + " of " + t[0], x, FAILED - WORD, WORD, 1, 0, 1, 0);
                due.is("stock as before", x.stock(0), t[0]);
            } else {
                acts("take " + t[1] + " of " + t[0], x, 0, 0, 0, 0, 1, 0);
                due.is("left", x.stock(0), t[2]);
            }
        }
        // STOCK ahead, a, b, STOCK behind (-1: WORD 2, -2: ARITHMETIC).
        long[][] sums = {{0, 7, 2, 3}, {10, -7, 2, 7}, {10, 7, -2, 7}, {10, -7, -2, 13}, {3, -7, 2, 0}, {2, -7, 2, -1}, {0, -1, 2, 0}, {0, -1, 1, -1},
            {MOST, 1, 2, MOST}, {MOST, 1, 1, -1}, {MOST - 1, 1, 1, MOST}, {MOST - 1, 2, 1, -1}, {MOST, -1, 1, MOST - 1}, {5, 1, 0, -2}, {5, 0, 0, -2},
            {5, MIN, 0, -2}, {0, MIN, -1, 2147483648L}, {0, MAX, -1, -1}, {2147483647L, MAX, -1, 0}, {2147483648L, MIN, 1, 0}, {2147483647L, MIN, 1, -1},
            {MOST - 2147483648L, MIN, -1, MOST}, {MOST - 2147483647L, MIN, -1, -1}, {5, 0, 9, 5}, {5, MIN, MIN, 6}};
        for (long[] t : sums) {
            ReservoirWall x = wall(s(0, SUM, (int) t[1], (int) t[2]));
            x.stock(t[0]);
            String when = "sum " + t[1] + " by " + t[2] + " into " + t[0];
            if (t[3] == -1) {
                acts(when, x, FAILED - WORD, WORD, 2, 0, 1, 0);
            } else if (t[3] == -2) {
                acts(when, x, FAILED - ARITHMETIC, ARITHMETIC, 0, 0, 1, 0);
            } else {
                acts(when, x, 0, 0, 0, 0, 1, 0);
            }
            due.is(when + ": stock", x.stock(0), t[3] < 0 ? t[0] : t[3]);
        }
    }

    private static void puts() {
        Consumer<ReservoirWall> rows = x -> {
            x.row(5, 2);
            x.row(3, 1);
            x.row(1, 0);
        };
        // ROW, cell, c, and what comes of it: 0 done, else the FAILURE.
        int[][] puts = {{0, 0, 1, 0}, {0, 1, 1, 0}, {0, 2, 1, INDEX}, {0, -1, 1, INDEX}, {0, MIN, 1, INDEX}, {0, MAX, 1, INDEX}, {1, 0, 1, 0}, {1, 1, 1, INDEX},
            {2, 0, 1, INDEX}, {3, 0, 1, NULL}, {-1, 0, 1, NULL}, {-2, 0, 1, NULL}, {MAX, 0, 1, NULL}, {MIN, 0, 1, NULL}, {40, -1, 1, NULL}, {-1, -1, 1, NULL}};
        for (int[] p : puts) {
            ReservoirWall x = wall(s(0, PUT, p[0], p[1], p[2]));
            rows.accept(x);
            acts("put " + Arrays.toString(p), x, p[3] == 0 ? 0 : FAILED - p[3], p[3], 0, 0, 1, 0);
        }
        ReservoirWall x = wall(s(0, PUT, 0, 0, 128), s(0, PUT, 0, 1, -129), s(0, PUT, 1, 0, MIN));
        rows.accept(x);
        acts("lowest bits", x, 0, 0, 0, 0, 3, 0);
        due.is("a byte", x.get(0, 0), -128);
        due.is("a byte", x.get(0, 1), 127);
        due.real("a double", x.getReal(1, 0), -2147483648.0);
    }

    private static void failures() {
        for (int a = 1; a <= 8; a++) {
            for (int b : new int[] {0, 1, 99}) {
                acts("fail " + a + ", " + b, wall(s(0, FAIL, a, b), s(0, SIGNAL, 1)), FAILED - a, a, a == WORD ? b : 0, 0, 1, 0);
            }
            for (int b = 0; b <= 9; b++) {
                boolean caught = b == 0 || b == a || b == 9 && a <= 7;
                ReservoirWall x = wall(s(0, TRY, 1, b, 2, NONE), s(0, SIGNAL, 5), s(1, FAIL, a, 33), s(1, SIGNAL, 6), s(2, SIGNAL, 7));
                int word = a == WORD ? 33 : 0;
                if (caught) {
                    acts("fail " + a + " is " + b, x, 0, 0, 0, 0, 4, 0);
                    due.is("c was done", x.signal(0), 7);
                    due.is("it went on", x.signal(1), 5);
                    due.is("no more", x.about(7), 2);
                } else {
                    acts("fail " + a + " is not " + b, x, FAILED - a, a, word, 0, 2, 0);
                    due.is("nothing more was done", x.about(7), 0);
                }
            }
        }
        for (int b = 0; b <= 9; b++) {
            ReservoirWall x = wall(s(0, TRY, 1, b, 2, 3), s(0, SIGNAL, 5), s(1, ANSWER, 4), s(2, SIGNAL, 7), s(3, SIGNAL, 8));
            acts("an ANSWER is no FAILURE, b " + b, x, 1, 0, 0, 4, 3, 0);
            due.is("but d was done", x.signal(0), 8);
            due.is("no more", x.about(7), 1);
            x = wall(s(0, TRY, 1, b, 2, 3), s(0, SIGNAL, 5), s(1, SIGNAL, 6), s(2, SIGNAL, 7), s(3, SIGNAL, 8));
            acts("nothing to catch, b " + b, x, 0, 0, 0, 0, 4, 0);
            due.is("a, d, then on", x.signal(0) * 100 + x.signal(1) * 10 + x.signal(2), 685);
        }
    }

    private static void answers() {
        for (int a : new int[] {MIN, -1, 0, 1, MAX}) {
            acts("answer " + a, wall(s(0, ANSWER, a), s(0, SIGNAL, 1)), 1, 0, 0, a, 1, 0);
            ReservoirWall x = wall(s(0, DO, 1), s(0, SIGNAL, 1), s(1, DO, 2), s(1, SIGNAL, 1), s(2, ANSWER, a));
            acts("all PLANS end", x, 1, 0, 0, a, 3, 0);
            due.is("all PLANS end", x.about(7), 0);
        }
        ReservoirWall x = wall(s(0, DO, 1), s(0, ANSWER, 3));
        acts("a PLAN without STEPS is done", x, 1, 0, 0, 3, 2, 0);
        acts("a PLAN without STEPS", new ReservoirWall(), 0, 0, 0, 0, 0, 0);
        due.is("raised(2) is of the latest ACT", x.act(5), 0);
        due.is("without", x.raised(2), 0);
        due.is("no STEPS", x.raised(3), 0);
        x = wall(s(0, TRY, 1, 0, NONE, 2), s(1, ANSWER, 9), s(2, FAIL, 6));
        acts("an ANSWER that a FAILURE came in the place of", x, FAILED - ARITHMETIC, ARITHMETIC, 0, 0, 3, 1);
        // An ANSWER keeps what was done.
        x = wall(s(0, PUT, 0, 0, 8), s(0, TAKE, 4), s(0, ANSWER, 9));
        x.row(1, 1);
        x.stock(10);
        acts("an ANSWER gives nothing back", x, 1, 0, 0, 9, 3, 0);
        due.is("cell", x.get(0, 0), 8);
        due.is("stock", x.stock(0), 6);
    }

    private static void putBy() {
        // 1: FAIL 6, 2: ANSWER 22, 3: FAIL 8 with 3, 4: SIGNAL, 5: nothing.
        int[][] tries = {
            // a, b, c, d: answer, raised(0) .. raised(4)
            {1, 0, NONE, 3, FAILED - WORD, WORD, 3, 0, 3, 0},
            {1, 0, 5, 3, FAILED - WORD, WORD, 3, 0, 3, 0},
            {1, 0, 1, 5, FAILED - ARITHMETIC, ARITHMETIC, 0, 0, 3, 0},
            {1, 0, 1, 3, FAILED - WORD, WORD, 3, 0, 4, 1},
            {1, 0, 1, 2, 1, 0, 0, 22, 4, 1},
            {1, 6, 2, 2, 1, 0, 0, 22, 4, 1},
            {1, 9, 2, NONE, 1, 0, 0, 22, 3, 0},
            {1, 8, 2, 5, FAILED - ARITHMETIC, ARITHMETIC, 0, 0, 2, 0},
            {1, 8, 2, 3, FAILED - WORD, WORD, 3, 0, 3, 1},
            {3, 9, 2, 1, FAILED - ARITHMETIC, ARITHMETIC, 0, 0, 3, 1},
            {3, 8, NONE, NONE, 0, 0, 0, 0, 2, 0},
            {2, 0, 1, 2, 1, 0, 0, 22, 3, 1},
            {2, 0, 1, NONE, 1, 0, 0, 22, 2, 0},
            {5, 0, 1, 2, 1, 0, 0, 22, 2, 0},
            {5, 0, 1, NONE, 0, 0, 0, 0, 1, 0},
        };
        for (int[] t : tries) {
            ReservoirWall x = wall(s(0, TRY, t[0], t[1], t[2], t[3]), s(1, FAIL, 6), s(2, ANSWER, 22), s(3, FAIL, 8, 3), s(4, SIGNAL, 1));
            acts("try " + Arrays.toString(t), x, t[4], t[5], t[6], t[7], t[8], t[9]);
        }
        ReservoirWall x = wall(s(0, TRY, 1, 0, NONE, 2), s(1, TRY, 3, 0, NONE, 3), s(2, TRY, 3, 0, NONE, 3), s(3, ANSWER, 7));
        acts("three are put by", x, 1, 0, 0, 7, 7, 3);
    }

    private static void givesBack() {
        ReservoirWall x = new ReservoirWall();
        long noNumber = 0x7FF8000000000000L;
        for (int kind = 0; kind < 8; kind++) {
            x.row(kind, 2);
            x.put(kind, 0, 100 + kind);
            x.putReal(kind, 1, noNumber);
            x.step(0, PUT, kind, 0, -1, 0);
            x.step(1, PUT, kind, 1, 0, 0);
        }
        x.bed(3, 1, -1);
        x.lay(0, 0, 3);
        x.stock(50);
        x.step(0, TAKE, 50, 0, 0, 0);
        x.step(0, SIGNAL, 12, 0, 0, 0);
        x.step(0, DO, 1, 0, 0, 0);
        x.step(1, PUT, 1, 0, 55, 0);
        x.step(1, PUT, 1, 0, 56, 0);
        x.step(1, SUM, 1, 0, 0, 0);
        acts("puts, and a FAILURE", x, FAILED - ARITHMETIC, ARITHMETIC, 0, 0, 22, 0);
        for (int kind = 0; kind < 8; kind++) {
            due.is("cell 0 as before", x.get(kind, 0), kind == 6 ? 1 : 100 + kind);
            due.is("cell 1 as before", x.getReal(kind, 1), kind == 2 || kind == 3 ? noNumber : kind == 6 ? Double.doubleToLongBits(1.0) : 0);
        }
        due.is("the STRIP as before", x.spot(0, 0, 0), 103);
        due.is("STOCK as before", x.stock(50), 50);
        due.is("SIGNALS stay", x.signal(0), 12);
        // Caught, nothing is given back.
        x.step(2, TRY, 0, 6, -1, -1);
        due.is("act(2)", x.act(2), 0);
        due.is("caught: cell", x.get(1, 0), 56);
        due.is("caught: cell", x.get(0, 0), -1);
        due.is("caught: STOCK", x.stock(0), 0);
        due.is("SIGNALS stay", x.about(7), 2);
        // As before the ACT, not as at first.
        x.stock(60);
        x.put(1, 0, 9);
        due.is("act(0)", x.act(0), FAILED - ARITHMETIC);
        due.is("cell as before the ACT", x.get(1, 0), 9);
        due.is("STOCK as before the ACT", x.stock(0), 60);
    }

    /** One PUT is given back, and those of an ACT before are not. */
    private static void givesBackOwn() {
        ReservoirWall x = wall(s(0, PUT, 0, 0, 1), s(0, PUT, 0, 1, 2), s(0, PUT, 0, 2, 3), s(1, PUT, 0, 0, 9), s(1, FAIL, 4), s(2, FAIL, 4));
        x.row(1, 3);
        acts("three PUTS", x, 0, 0, 0, 0, 3, 0);
        due.is("one PUT and a FAILURE", x.act(1), FAILED - 4);
        due.is("as before", x.get(0, 0) * 100 + x.get(0, 1) * 10 + x.get(0, 2), 123);
        due.is("a FAILURE alone", x.act(2), FAILED - 4);
        due.is("as before", x.get(0, 0) * 100 + x.get(0, 1) * 10 + x.get(0, 2), 123);
        for (int i = 0; i < 3; i++) {
            x.put(0, i, 7);
        }
        due.is("one PUT and a FAILURE", x.act(1), FAILED - 4);
        due.is("as before", x.get(0, 0) * 100 + x.get(0, 1) * 10 + x.get(0, 2), 777);
    }

    private static void givesBackAll() {
        // 44 PUTS into 22 cells, each twice.
        ReservoirWall x = new ReservoirWall();
        x.row(7, 22);
        for (int i = 0; i < 22; i++) {
            x.put(0, i, 1000 + i);
            x.step(i / 11, PUT, 0, i, 7, 0);
        }
        x.step(2, DO, 0, 0, 0, 0);
        x.step(2, DO, 1, 0, 0, 0);
        x.step(2, DO, 0, 0, 0, 0);
        due.is("act(2)", x.act(2), 0);
        due.is("36 STEPS", x.raised(3), 36);
        due.is("put", x.get(0, 21), 7);
        for (int i = 0; i < 22; i++) {
            x.put(0, i, 1000 + i);
        }
        x.step(2, DO, 1, 0, 0, 0);
        due.is("act(2)", x.act(2), 0);
        due.is("48 STEPS", x.raised(3), 48);
        for (int i = 0; i < 22; i++) {
            x.put(0, i, 2000 + i);
        }
        x.step(2, SIGNAL, 1, 0, 0, 0);
        due.is("act(2)", x.act(2), FAILED - WORD);
        for (int i = 0; i < 22; i++) {
            due.is("as before", x.get(0, i), 2000 + i);
        }
    }

    private static void signalsKept() {
        for (int n = 59; n <= 61; n++) {
            ReservoirWall x = new ReservoirWall();
            for (int i = 0; i < 10; i++) {
                x.step(0, SIGNAL, 10 + i, 0, 0, 0);
            }
            for (int i = 0; i < n; i += 10) {
                if (n - i < 10) {
                    x.wipe(0);
                    for (int k = 0; k < n - i; k++) {
                        x.step(0, SIGNAL, 70 + k, 0, 0, 0);
                    }
                }
                due.is("act", x.act(0), 0);
            }
            due.is("SIGNALS of " + n, x.about(7), Math.min(n, 60));
            due.is("SIGNAL 49", x.signal(49), 19);
            due.is("SIGNAL 58", x.signal(58), n == 59 ? 78 : 18);
            due.is("SIGNAL 59", x.signal(59), n == 59 ? NONE : 19);
            due.is("SIGNAL 60", x.signal(60), NONE);
        }
    }

    private static void depths() {
        for (int deep = 7; deep <= 9; deep++) {
            // PLAN p does PLAN p + 1; the last one has a SIGNAL.
            ReservoirWall x = new ReservoirWall();
            for (int p = 0; p < deep - 1; p++) {
                x.step(p, DO, p + 1, 0, 0, 0);
            }
            x.step(deep - 1, SIGNAL, 1, 0, 0, 0);
            if (deep < 9) {
                acts(deep + " deep", x, 0, 0, 0, 0, deep, 0);
                due.is("done", x.about(7), 1);
            } else {
                acts(deep + " deep", x, FAILED - WORD, WORD, 3, 0, 8, 0);
                due.is("not done", x.about(7), 0);
            }
        }
        acts("itself", wall(s(0, SIGNAL, 1), s(0, DO, 0)), FAILED - WORD, WORD, 3, 0, 16, 0);
        acts("itself, by TRY", wall(s(0, TRY, 0, 1, NONE, NONE)), FAILED - WORD, WORD, 3, 0, 8, 0);
        acts("itself, caught at the deepest", wall(s(0, TRY, 0, 8, NONE, NONE), s(0, SIGNAL, 1)), 0, 0, 0, 0, 16, 0);
        // b, c, d of a TRY in the 8th PLAN: WORD 3 comes as out of the 9th.
        int[][] tries = {{0, NONE, NONE, 0, 0}, {8, NONE, NONE, 0, 0}, {9, NONE, NONE, WORD, 0}, {7, NONE, NONE, WORD, 0}, {0, 8, NONE, WORD, 0},
            {0, NONE, 8, WORD, 0}, {0, 8, 8, WORD, 1}, {9, NONE, 8, WORD, 1}};
        for (int[] t : tries) {
            ReservoirWall x = new ReservoirWall();
            for (int p = 0; p < 7; p++) {
                x.step(p, DO, p + 1, 0, 0, 0);
            }
            x.step(7, TRY, 8, t[0], t[1], t[2]);
            x.step(8, SIGNAL, 1, 0, 0, 0);
            acts("9 deep, TRY " + Arrays.toString(t), x, t[3] == 0 ? 0 : FAILED - WORD, t[3], t[3] == 0 ? 0 : 3, 0, 8, t[4]);
            due.is("PLAN 8 was not done", x.about(7), 0);
        }
        // c and d of a TRY in the 7th PLAN are 8 deep, as a is.
        ReservoirWall x = new ReservoirWall();
        for (int p = 0; p < 6; p++) {
            x.step(p, DO, p + 1, 0, 0, 0);
        }
        steps(x, s(6, TRY, 7, 0, 8, 8), s(7, FAIL, 1), s(8, SIGNAL, 1));
        acts("8 deep", x, 0, 0, 0, 0, 10, 0);
        due.is("c and d were done", x.about(7), 2);
        // WORD 3 gives back, too.
        x = wall(s(0, TAKE, 1), s(0, DO, 0));
        x.stock(100);
        acts("itself", x, FAILED - WORD, WORD, 3, 0, 16, 0);
        due.is("STOCK as before", x.stock(0), 100);
    }

    /** PLAN 1 has 11 SIGNALS, PLAN 0 does it 4 times: 48 STEPS. */
    private static ReservoirWall fortyEight() {
        ReservoirWall x = new ReservoirWall();
        signals(x, 1, 11);
        for (int i = 0; i < 4; i++) {
            x.step(0, DO, 1, 0, 0, 0);
        }
        return x;
    }

    private static void manySteps() {
        acts("48 STEPS", fortyEight(), 0, 0, 0, 0, 48, 0);
        ReservoirWall x = fortyEight();
        x.step(0, DO, 5, 0, 0, 0);
        acts("the 49th is the ACT's own", x, FAILED - WORD, WORD, 3, 0, 48, 0);
        due.is("44 SIGNALS stay", x.about(7), 44);
        x = fortyEight();
        x.step(1, SIGNAL, 1, 0, 0, 0);
        acts("the 49th is in another PLAN", x, FAILED - WORD, WORD, 3, 0, 48, 0);
        due.is("44 SIGNALS stay", x.about(7), 44);
        x = fortyEight();
        x.wipe(1);
        signals(x, 1, 10);
        x.step(0, ANSWER, 6, 0, 0, 0);
        acts("45 STEPS and an ANSWER", x, 1, 0, 0, 6, 45, 0);
        // A TRY whose PLAN comes to the end of the STEPS: 1 + 4 + 43, the 49th in PLAN 1.
        int[][] tries = {{0, NONE, NONE, 0, 0}, {8, NONE, NONE, 0, 0}, {9, NONE, NONE, WORD, 0}, {0, 3, NONE, WORD, 0}, {0, NONE, 3, WORD, 0}, {0, 3, 3, WORD, 1},
            {0, 4, 4, 0, 0}, {7, NONE, 3, WORD, 1}};
        for (int[] t : tries) {
            x = new ReservoirWall();
            signals(x, 1, 11);
            steps(x, s(2, DO, 1), s(2, DO, 1), s(2, DO, 1), s(2, DO, 1), s(0, TRY, 2, t[0], t[1], t[2]), s(3, SIGNAL, 77));
            acts("49 STEPS, TRY " + Arrays.toString(t), x, t[3] == 0 ? 0 : FAILED - WORD, t[3], t[3] == 0 ? 0 : 3, 0, 48, t[4]);
            due.is("PLAN 3 had no STEP done", x.about(7), 43);
        }
        // A HOLD that would be the 49th is not let go, as it was not done.
        x = fortyEight();
        x.step(0, HOLD, 2, 0, 0, 0);
        acts("the 49th is a HOLD", x, FAILED - WORD, WORD, 3, 0, 48, 0);
        // The count begins anew with each ACT.
        x = fortyEight();
        acts("first", x, 0, 0, 0, 0, 48, 0);
        acts("second", x, 0, 0, 0, 0, 48, 0);
    }

    private static void raisedOfActs() {
        ReservoirWall x = wall(s(0, TRY, 1, 0, NONE, 2), s(1, ANSWER, 5), s(2, ANSWER, 6));
        due.is("act", x.act(0), 1);
        x.get(NONE, 0);
        due.is("another FAILURE", x.raised(0), NULL);
        x.act(-1);
        x.act(12);
        due.is("refused ACTS are none", x.raised(0), NULL);
        due.is("raised(2) is of the latest ACT", x.raised(2), 6);
        due.is("raised(3) is of the latest ACT", x.raised(3), 3);
        due.is("raised(4) is of the latest ACT", x.raised(4), 1);
        x.step(3, FAIL, SIZE, 0, 0, 0);
        due.is("an ACT that FAILS", x.act(3), FAILED - SIZE);
        due.is("raised(2)", x.raised(2), 0);
        due.is("raised(3)", x.raised(3), 1);
        due.is("raised(4)", x.raised(4), 0);
        x.step(4, FAIL, WORD, 99, 0, 0);
        x.act(4);
        due.is("its WORD", x.raised(1), 99);
        x.get(NONE, 0);
        due.is("no WORD of another FAILURE", x.raised(1), 0);
        x.act(4);
        x.table(0);
        due.is("no WORD without a FAILURE", x.raised(1), 0);
    }

    public static void main(String[] args) {
        step();
        stockAndGates();
        holdsAndTurns();
        takesAndSums();
        puts();
        failures();
        answers();
        putBy();
        givesBack();
        givesBackOwn();
        givesBackAll();
        signalsKept();
        depths();
        manySteps();
        raisedOfActs();
        due.end();
    }
}
