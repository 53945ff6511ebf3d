import com.sun.management.ThreadMXBean;
import java.lang.management.ManagementFactory;
import java.util.function.Consumer;
import java.util.function.ToLongFunction;

/** All calls of a run live in one room: what an object makes, and what a call makes that could use again what there is. */
public final class RoomTest {
    private static final int CALLS = 512;
    /** One room has some 600,000 objects and 7.3 million elements; this leaves place for hundreds of objects in it. */
    private static final long MOST_BYTES_OF_NEW = 16_000, MOST_BYTES_OF_FULL = 300_000;
    /** What the measuring itself may make. */
    private static final long MOST_BYTES_OF_CALLS = 8_192;

    private static final Due due = new Due("RoomTest");
    private static final ThreadMXBean BEAN = (ThreadMXBean) ManagementFactory.getThreadMXBean();
    private static long sink;

    private static long bits(double d) {
        return Double.doubleToRawLongBits(d);
    }

    private static long made(Runnable what) {
        long id = Thread.currentThread().getId();
        long before = BEAN.getThreadAllocatedBytes(id);
        what.run();
        return BEAN.getThreadAllocatedBytes(id) - before;
    }

    private static void atMost(String what, Runnable does, long most) {
        does.run();
        long bytes = made(does);
        due.is(what + " makes " + bytes + " bytes, more than " + most, bytes <= most ? 0 : 1, 0);
    }

    /** A call that makes nothing that stays: as many as an object may have. */
    private static void makesNothing(String call, Consumer<ReservoirWall> more, ToLongFunction<ReservoirWall> on) {
        ReservoirWall x = new ReservoirWall();
        UsedWall.build(x);
        more.accept(x);
        atMost(CALLS + " calls of " + call, () -> {
            for (int i = 0; i < CALLS; i++) {
                sink += on.applyAsLong(x);
            }
        }, MOST_BYTES_OF_CALLS);
    }

    private static void makesNothing(String call, ToLongFunction<ReservoirWall> on) {
        makesNothing(call, x -> { }, on);
    }

    private static void fillUp() {
        ReservoirWall x = new ReservoirWall();
        for (int i = 0; i < 40; i++) {
            sink += x.row(i % 8, 64) + x.thing(i % 6, 1);
        }
        for (int i = 0; i < 20; i++) {
            sink += x.bed(1, 16, 64) + x.rack(9, 16) + x.card();
        }
    }

    /** PLAN 11 is eight deep, and every STEP of it one that puts, tries or fails. */
    private static void dearAct(ReservoirWall x) {
        for (int plan = 0; plan < 12; plan++) {
            x.wipe(plan);
            for (int i = 0; i < 6; i++) {
                x.step(plan, 0, 3, 0, i, 0);
                x.step(plan, 7, plan == 0 ? 11 : plan - 1, 0, plan, plan);
            }
        }
    }

    private static void calls() {
        makesNothing("put()", x -> x.put(3, 0, 77));
        makesNothing("putReal()", x -> x.putReal(3, 0, bits(0.1)));
        makesNothing("raise()", x -> x.raise(2, 0, 3, true));
        makesNothing("shift()", x -> x.shift(9, 0, 10, 1, 24));
        makesNothing("mean()", x -> x.mean(9));
        makesNothing("asked()", x -> x.asked(0, 5, 4));
        makesNothing("haul()", x -> x.haul(0, 0, 2, 0, 3));
        makesNothing("ring()", x -> x.ring(0));
        for (int what = 0; what <= 6; what++) {
            int of = what;
            makesNothing("flow() " + what, x -> x.flow(3, of));
        }
        makesNothing("act()", RoomTest::dearAct, x -> x.act(11));
        makesNothing("turned()", x -> x.turned(bits(123456.75)));
        makesNothing("reading()", x -> x.reading(0, bits(8.5)));
        makesNothing("run()", x -> x.run(bits(10.0), bits(5.0)));
        makesNothing("lake()", x -> x.lake(1));
        makesNothing("ruleAt()", x -> x.ruleAt(1, bits(8.0)));
        makesNothing("part()", x -> x.part(1000));
        makesNothing("close()", x -> x.close());
        makesNothing("regret()", x -> x.regret(0));
        makesNothing("chosen()", x -> x.chosen());
        makesNothing("book()", x -> x.book(9));
        makesNothing("damage() and open()", x -> x.damage(0, 5, 1) + x.open());
        makesNothing("opened()", x -> x.opened(0, 0));
        makesNothing("lost()", x -> x.lost(0, -1));
    }

    public static void main(String[] args) {
        atMost("a new object", () -> sink += new ReservoirWall().about(0), MOST_BYTES_OF_NEW);
        atMost("an object with all that it may have", RoomTest::fillUp, MOST_BYTES_OF_FULL);
        calls();
        due.end();
    }
}
