import java.util.ArrayList;
import java.util.List;
import java.util.function.Consumer;
import java.util.function.ToLongFunction;

/**
 * Calls at the edges that the document names, each on an object of its own that is built the same way: the answer, what raised()
 * tells behind it, and, where the call may alter nothing, that all else is as it is on an object that was not called.
 */
final class Edges {
    static final int NULL = 1, INDEX = 2, SIZE = 3, CAST = 4, STORE = 5, ARITHMETIC = 6, HELD = 7, WORD = 8;

    /** What raised() tells of an object that is marked. */
    private static final int[] MARKS = {5, 2, 42, 3, 1};

    private final Due due;
    private final Consumer<ReservoirWall> build;
    private final List<UsedWall.Answers> untouched = new ArrayList<>();

    Edges(Due due, Consumer<ReservoirWall> build) {
        this.due = due;
        this.build = build;
        for (int question = 0; question < UsedWall.QUESTIONS; question++) {
            UsedWall.Answers answers = new UsedWall.Answers();
            UsedWall.ask(marked(), question, answers);
            untouched.add(answers);
        }
    }

    /** The same, with more calls behind the build. */
    Edges behind(Consumer<ReservoirWall> more) {
        return new Edges(due, build.andThen(more));
    }

    private ReservoirWall marked() {
        ReservoirWall x = new ReservoirWall();
        build.accept(x);
        UsedWall.mark(x);
        return x;
    }

    private void tellsRaised(String call, ReservoirWall x, int failure, int word) {
        due.is("raised(0) behind " + call, x.raised(0), failure);
        due.is("raised(1) behind " + call, x.raised(1), word);
        for (int what = 2; what <= 4; what++) {
            due.is("raised(" + what + ") behind " + call, x.raised(what), MARKS[what]);
        }
    }

    private void altersNothing(String call, ToLongFunction<ReservoirWall> on) {
        for (int question = 0; question < UsedWall.QUESTIONS; question++) {
            ReservoirWall x = marked();
            on.applyAsLong(x);
            UsedWall.Answers answers = new UsedWall.Answers();
            UsedWall.ask(x, question, answers);
            due.is(call + " alters nothing: first unlike answer to question " + question, answers.unlikeAt(untouched.get(question)), -1);
        }
    }

    /** What is refused alters nothing at all, and is not told by raised(). */
    void refused(String call, int refusal, ToLongFunction<ReservoirWall> on) {
        ReservoirWall x = marked();
        due.is(call, on.applyAsLong(x), refusal);
        tellsRaised(call, x, MARKS[0], MARKS[1]);
        x.table(0);
        due.is(call + " again", on.applyAsLong(x), refusal);
        tellsRaised(call + " again", x, 0, 0);
        altersNothing(call, on);
    }

    void unknown(String call, ToLongFunction<ReservoirWall> on) {
        refused(call, ReservoirWall.UNKNOWN, on);
    }

    void outside(String call, ToLongFunction<ReservoirWall> on) {
        refused(call, ReservoirWall.OUTSIDE, on);
    }

    void state(String call, ToLongFunction<ReservoirWall> on) {
        refused(call, ReservoirWall.STATE, on);
    }

    void full(String call, ToLongFunction<ReservoirWall> on) {
        refused(call, ReservoirWall.FULL, on);
    }

    /** What FAILS alters nothing but what raised() tells. */
    void fails(String call, int failure, ToLongFunction<ReservoirWall> on) {
        ReservoirWall x = marked();
        due.is(call, on.applyAsLong(x), ReservoirWall.FAILED - failure);
        tellsRaised(call, x, failure, 0);
        x.table(0);
        due.is(call + " again", on.applyAsLong(x), ReservoirWall.FAILED - failure);
        tellsRaised(call + " again", x, failure, 0);
        altersNothing(call, on);
    }

    /** A question that could FAIL and does not. */
    void asks(String call, long want, ToLongFunction<ReservoirWall> on) {
        does(call, want, on);
        altersNothing(call, on);
    }

    /** A call that could FAIL, does not, and may alter something. */
    ReservoirWall does(String call, long want, ToLongFunction<ReservoirWall> on) {
        ReservoirWall x = marked();
        due.is(call, on.applyAsLong(x), want);
        tellsRaised(call, x, 0, 0);
        return x;
    }

    /** A question that can't FAIL. */
    void tells(String call, long want, ToLongFunction<ReservoirWall> on) {
        sets(call, want, on);
        altersNothing(call, on);
    }

    /** A call that can't FAIL, and may alter something. */
    ReservoirWall sets(String call, long want, ToLongFunction<ReservoirWall> on) {
        ReservoirWall x = marked();
        due.is(call, on.applyAsLong(x), want);
        tellsRaised(call, x, MARKS[0], MARKS[1]);
        return x;
    }
}
