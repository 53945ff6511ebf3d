/** Promise 1. */
public final class NewObjectTest {
    public static void main(String[] args) {
        Due due = new Due("NewObjectTest");
        ReservoirWall x = new ReservoirWall();
        for (int what = 0; what <= 10; what++) {
            due.is("about(" + what + ")", x.about(what), 0);
        }
        for (int what = 0; what <= 4; what++) {
            due.is("raised(" + what + ")", x.raised(what), 0);
        }
        double[] lake = {100000.0, 9.0 + 1000.0 / 21000.0, Double.NaN, 0, 0, 0, 0, 0, 0, 0.125, 0, 0, 0, 0};
        for (int what = 0; what < lake.length; what++) {
            due.real("lake(" + what + ")", x.lake(what), lake[what]);
        }
        for (int g = 0; g < 4; g++) {
            due.is("gate depth", x.gate(g, 0), 0);
            due.is("gate notches", x.gate(g, 1), 0);
            due.is("moved", x.moved(g, 0), 0);
            due.is("stuck", x.moved(g, 1), 0);
            due.is("hand", x.moved(g, 2), 0);
        }
        for (int g = 0; g < 6; g++) {
            due.is("heard", x.heard(g), ReservoirWall.NONE);
            due.is("peak", x.peak(g), ReservoirWall.NONE);
        }
        for (int b = 0; b < 10; b++) {
            due.is("taken", x.taken(b, 0), ReservoirWall.NONE);
        }
        for (int p = 0; p < 12; p++) {
            due.is("wipe", x.wipe(p), 0);
            due.is("act", x.act(p), 0);
        }
        for (int p = 0; p < 32; p++) {
            for (int i = 0; i < 32; i++) {
                if (i % 7 == 0) {
                    due.is("pageByte", x.pageByte(p, i), 0);
                }
            }
        }
        due.is("stock", x.stock(0), 0);
        due.is("hours", x.hours(12), 12);
        due.is("chosen", x.chosen(), ReservoirWall.NONE);
        due.is("open", x.open(), 0);
        for (int what = 0; what < 3; what++) {
            due.is("lost", x.lost(what, -1), 0);
        }
        for (int k = 0; k < 8; k++) {
            due.is("no RELEASE", x.regret(k), ReservoirWall.UNKNOWN);
        }
        due.is("no RUN that does not lack", x.chance(0, 1), 0);
        due.is("no RULE", x.ruleAt(0, 0), ReservoirWall.NONE);
        due.is("no RIGHT", x.has(0), ReservoirWall.UNKNOWN);
        due.is("no ROW OF THE BOOK", x.opened(0, 0), ReservoirWall.UNKNOWN);
        due.is("no ROW", x.get(0, 0), ReservoirWall.UNKNOWN);
        due.is("no BED", x.bare(0, -1), ReservoirWall.UNKNOWN);
        due.is("no THING", x.says(0, 0), ReservoirWall.UNKNOWN);
        due.is("no RACK", x.hung(0, 0), ReservoirWall.UNKNOWN);
        due.is("no CARD", x.ring(0), ReservoirWall.UNKNOWN);
        due.is("close", x.close(), 0);
        due.is("part", x.part(5), 0);
        due.is("signal", x.signal(0), ReservoirWall.NONE);
        due.is("row", x.row(1, 1), 0);
        due.is("bed", x.bed(1, 1, 1), 0);
        due.is("thing", x.thing(0, 1), 0);
        due.is("rack", x.rack(0, 1), 0);
        due.is("card", x.card(), 0);
        due.is("rule", x.rule(0, 0, 0, 0, 0, 0), 0);
        due.is("right", x.right(0, 0, 0), 0);
        due.is("the first STEP", x.run(0, 0), 1);
        due.is("no READING, no WORD was there", x.about(1), 1);
        for (int g = 0; g < 6; g++) {
            due.is("no READING", x.heard(g), 1);
        }
        due.real("nothing flows", x.lake(0), 100000.0);
        due.is("the first BOOKING", x.book(0), 1);
        // One object is not another: what was done to this one is not seen by a new one.
        ReservoirWall y = new ReservoirWall();
        for (int what = 0; what <= 10; what++) {
            due.is("about(" + what + ") of another", y.about(what), 0);
        }
        due.is("pageByte of another", y.pageByte(0, 1), 0);
        due.end();
    }
}
