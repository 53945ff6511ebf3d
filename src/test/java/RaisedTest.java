import java.util.Arrays;
import java.util.Set;
import java.util.TreeSet;
import java.util.function.ToLongFunction;

/** Promise 46 over all calls: one that could FAIL and does not sets raised(0) to 0, one that can't FAIL leaves it. */
public final class RaisedTest {
    private static final Due due = new Due("RaisedTest");
    private static final Set<String> seen = new TreeSet<>();

    /** An object with a row of doubles, a thing, a rack, a bed, a card, and a failure. */
    private static ReservoirWall failed() {
        ReservoirWall x = new ReservoirWall();
        x.row(3, 2);
        x.thing(0, 1);
        x.rack(9, 1);
        x.hang(0, 0, 0);
        x.bed(3, 1, 1);
        x.card();
        x.link(0, 0, 0);
        x.box(0, 1, 0);
        x.right(0, 1, 1);
        x.release(0, 0);
        x.book(0);
        x.haul(0, 0, -1, 0, 0);
        return x;
    }

    private static void could(String name, ToLongFunction<ReservoirWall> call) {
        seen.add(name);
        ReservoirWall x = failed();
        due.is("a failure ahead of " + name, x.raised(0), 1);
        long answer = call.applyAsLong(x);
        due.is(name + " is not refused and does not fail", answer <= -2000000001L && answer >= -2000000018L ? 1 : 0, 0);
        due.is("raised(0) behind " + name, x.raised(0), 0);
    }

    private static void canNot(String name, ToLongFunction<ReservoirWall> call) {
        seen.add(name);
        ReservoirWall x = failed();
        long answer = call.applyAsLong(x);
        due.is(name + " is not refused", answer <= -2000000001L && answer >= -2000000018L ? 1 : 0, 0);
        due.is("raised(0) behind " + name, x.raised(0), 1);
    }

    public static void main(String[] args) {
        could("row", x -> x.row(0, 0));
        could("put", x -> x.put(0, 0, 1));
        could("putReal", x -> x.putReal(0, 0, 1));
        could("get", x -> x.get(0, 0));
        could("getReal", x -> x.getReal(0, 0));
        could("raise", x -> x.raise(0, 0, 1, true));
        could("join", x -> x.join(0, 0));
        could("shift", x -> x.shift(0, 0, 0, 1, 1));
        canNot("like", x -> x.like(0, 0));
        could("count", x -> x.count(0, 0));
        could("count", x -> x.count(0, 1));
        could("count", x -> x.count(0, 2));
        could("find", x -> x.find(0, 0));
        could("mean", x -> x.mean(0));
        could("bed", x -> x.bed(1, 1, 1));
        could("lay", x -> x.lay(0, 0, 0));
        could("spot", x -> x.spot(0, 0, 0));
        could("setSpot", x -> x.setSpot(0, 0, 0, 1));
        canNot("bare", x -> x.bare(0, -1));
        canNot("thing", x -> x.thing(0, 0));
        could("says", x -> x.says(0, 0));
        could("rack", x -> x.rack(0, 0));
        could("hang", x -> x.hang(0, 0, 0));
        could("down", x -> x.down(0, 0, 0));
        could("hung", x -> x.hung(0, 0));
        could("asked", x -> x.asked(0, 0, 0));
        could("haul", x -> x.haul(0, 0, 0, 0, 1));
        canNot("box", x -> x.box(0, 0, 0));
        canNot("isA", x -> x.isA(0, 3));
        could("taken", x -> x.taken(0, 3));
        could("taken", x -> x.taken(1, 3));
        could("used", x -> x.used(0));
        canNot("card", x -> x.card());
        could("field", x -> x.field(0, 0, 1));
        could("fieldOf", x -> x.fieldOf(0, 0));
        could("raiseField", x -> x.raiseField(0, 0, 1, true));
        could("link", x -> x.link(0, -1, -1));
        could("along", x -> x.along(0, 1));
        could("ring", x -> x.ring(0));
        could("ring", x -> {
            x.link(0, -1, 0);
            x.get(-1, 0);
            return x.ring(0);
        });
        could("cardAsk", x -> x.cardAsk(0, 0));
        could("copy", x -> x.copy(0));
        could("flow", x -> x.flow(0, 0));
        could("test", x -> x.test(0, 0, 1, 0, false));
        for (int what = 0; what < 6; what++) {
            int of = what;
            could("quotient", x -> x.quotient(1, 1, of));
        }
        canNot("step", x -> x.step(0, 8, 0, 0, 0, 0));
        canNot("wipe", x -> x.wipe(0));
        could("act", x -> x.act(0));
        could("act", x -> {
            x.step(0, 8, 5, 0, 0, 0);
            return x.act(0);
        });
        canNot("raised", x -> x.raised(0));
        canNot("stock", x -> x.stock(1));
        canNot("gate", x -> x.gate(0, 0));
        canNot("signal", x -> x.signal(0));
        could("table", x -> x.table(0));
        canNot("turned", x -> x.turned(0));
        canNot("reading", x -> x.reading(0, 0));
        canNot("word", x -> x.word(0));
        canNot("stuck", x -> x.stuck(0, true));
        canNot("hand", x -> x.hand(0, 0));
        canNot("rate", x -> x.rate(0));
        canNot("run", x -> x.run(0, 0));
        canNot("lake", x -> x.lake(0));
        canNot("heard", x -> x.heard(0));
        canNot("moved", x -> x.moved(0, 0));
        canNot("about", x -> x.about(0));
        canNot("rule", x -> x.rule(0, 0, 0, 0, 0, 0));
        canNot("ruleAt", x -> x.ruleAt(0, 0));
        canNot("right", x -> x.right(0, 0, 0));
        canNot("part", x -> x.part(1));
        canNot("has", x -> x.has(0));
        canNot("close", x -> x.close());
        canNot("hours", x -> x.hours(1));
        canNot("ahead", x -> x.ahead(0, 0, 0));
        canNot("release", x -> x.release(0, 0));
        canNot("routed", x -> x.routed(0, 0, 0));
        canNot("regret", x -> x.regret(0));
        canNot("chosen", x -> x.chosen());
        canNot("peak", x -> x.peak(0));
        canNot("chance", x -> x.chance(0, 0));
        could("book", x -> x.book(0));
        could("pageByte", x -> x.pageByte(0, 0));
        could("damage", x -> x.damage(0, 0, 1));
        canNot("tear", x -> x.tear(0, 0));
        canNot("twin", x -> x.twin(0, 1));
        canNot("open", x -> x.open());
        canNot("opened", x -> x.opened(0, 0));
        canNot("lost", x -> x.lost(0, -1));

        Set<String> face = new TreeSet<>();
        Arrays.stream(ReservoirWall.class.getMethods()).filter(m -> m.getDeclaringClass() == ReservoirWall.class)
                .forEach(m -> face.add(m.getName()));
        due.is("calls of the face that are not looked at", face.stream().filter(name -> !seen.contains(name)).count(), 0);
        due.end();
    }
}
