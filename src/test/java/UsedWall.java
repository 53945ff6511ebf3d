/** A wall in which something of every kind is in use, and questions that show all of it. */
final class UsedWall {
    static final int QUESTIONS = 10;

    private UsedWall() {
    }

    private static long bits(double d) {
        return Double.doubleToRawLongBits(d);
    }

    /**
     * Some 120 calls. ROWS 0 .. 7 of each KIND with 3 cells, 8 an int one without cells, 9 one of 24 bytes, 10 one of 25. BEDS:
     * 0 of ints (ROW 1 as its second STRIP), 1 of doubles (bare, bare, ROW 3), 2 of truths. THINGS 0 .. 5 of each SORT. RACKS: 0
     * for all, 1 for FLOAT, 2 for READS. BOXES 0 .. 3. CARDS 0, 1, 2 in a ring. HOURS are 3; RELEASES 0, 3, 7; 3 BOOKINGS.
     */
    static void build(ReservoirWall x) {
        rowsAndBeds(x);
        thingsAndCards(x);
        plans(x);
        lake(x);
        lawAndFloods(x);
        book(x);
    }

    private static void rowsAndBeds(ReservoirWall x) {
        for (int kind = 0; kind < 8; kind++) {
            x.row(kind, 3);
            x.put(kind, 0, 5 + kind);
            x.putReal(kind, 1, bits(-2.75));
        }
        x.row(1, 0);
        x.row(5, 24);
        x.row(5, 25);
        x.put(9, 23, 99);
        x.bed(1, 2, 2);
        x.bed(3, 3, -1);
        x.bed(6, 1, 1);
        x.lay(0, 1, 1);
        x.lay(1, 2, 3);
        x.setSpot(0, 0, 1, 9);
    }

    private static void thingsAndCards(ReservoirWall x) {
        x.rack(9, 6);
        x.rack(0, 6);
        x.rack(6, 3);
        for (int sort = 0; sort < 6; sort++) {
            x.thing(sort, 10 + sort);
            x.hang(0, sort, sort);
        }
        x.hang(1, 3, 1);
        x.box(0, 1, 3);
        x.box(1, 2, 1);
        x.box(2, 3, 1);
        x.box(3, 4, 0);
        for (int c = 0; c < 3; c++) {
            x.card();
        }
        for (int c = 0; c < 3; c++) {
            x.link(c, (c + 1) % 3, c == 1 ? -1 : 5);
            x.field(c, c, 70 + c);
            x.field(c, 7, 1);
        }
    }

    private static void plans(ReservoirWall x) {
        x.stock(1000);
        x.step(0, 0, 9, 0, 321, 0);
        x.step(0, 1, 7, 0, 0, 0);
        x.step(0, 5, -8, 0, 0, 0);
        x.step(1, 3, 2, 0, 0, 0);
        x.step(1, 4, 2, 30, 0, 0);
        x.step(2, 9, 50, 4, 0, 0);
        x.step(2, 2, 8, 6, 0, 0);
        // 8: an ANSWER that another one is put in the place of.
        x.step(8, 7, 9, 0, -1, 10);
        x.step(9, 8, 41, 0, 0, 0);
        x.step(10, 8, 42, 0, 0, 0);
        x.act(0);
        x.act(1);
    }

    private static void lake(ReservoirWall x) {
        x.rule(5, 0, 365, bits(0.0), bits(40.0), bits(1000.0));
        x.rule(5, 2, 3, bits(1.0), bits(39.0), bits(100.0));
        x.rule(4, 3, 9, bits(8.0), bits(10.0), bits(300.0));
        for (int step = 1; step <= 3; step++) {
            x.reading(0, bits(9.0));
            x.reading(1, bits(9.0 + step * 0.01));
            x.run(bits(100.0 * step), bits(step - 2.0));
        }
        x.stuck(1, true);
        x.hand(2, bits(0.75));
        x.rate(bits(0.25));
        x.reading(0, bits(9.0));
        x.reading(3, bits(8.75));
        x.word(bits(9.125));
    }

    private static void lawAndFloods(ReservoirWall x) {
        x.right(1, 30, 500);
        x.right(1, 10, 500);
        x.right(0, 0, 50);
        x.part(90);
        x.hours(3);
        for (int hour = 0; hour < 3; hour++) {
            x.ahead(0, hour, bits(400000.0 + hour));
            x.ahead(4, hour, bits(3.0 - hour));
        }
        x.ahead(5, 0, bits(1.0));
        x.release(0, bits(100000.0));
        x.release(3, bits(0.5));
        x.release(7, bits(0.5));
    }

    private static void book(ReservoirWall x) {
        x.book(0);
        x.book(9);
        x.book(8);
        x.twin(1, 30);
        x.damage(2, 20, 1);
    }

    /** raised() tells 5, 2, 42, 3, 1 behind it: none of them is what a new object tells. */
    static void mark(ReservoirWall x) {
        x.act(8);
        x.haul(0, 0, 1, 0, 6);
    }

    /** One of the QUESTIONS; each stays below 310 calls, so that one object is called less than 512 times. */
    static void ask(ReservoirWall x, int question, Answers to) {
        switch (question) {
            case 0:
                askRows(x, to);
                break;
            case 1:
                askBedsAndRacks(x, to);
                break;
            case 2:
                askBoxesAndCards(x, to);
                break;
            case 3:
                askActs(x, to);
                break;
            case 4:
                askLake(x, to);
                break;
            case 5:
                askLawAndFloods(x, to);
                break;
            case 6:
                askBook(x, to);
                askPages(x, to, 0, 8);
                break;
            case 7:
                askPages(x, to, 8, 16);
                break;
            case 8:
                askPages(x, to, 16, 24);
                break;
            default:
                askPages(x, to, 24, 32);
        }
    }

    private static void askRows(ReservoirWall x, Answers to) {
        int rows = x.about(2);
        to.add(rows);
        for (int row = 0; row < rows; row++) {
            int cells = x.count(row, 0);
            int kind = x.count(row, 1);
            to.add(cells);
            to.add(kind);
            for (int i = 0; i < cells; i++) {
                to.add(kind == 2 || kind == 3 ? x.getReal(row, i) : x.get(row, i));
            }
        }
    }

    private static void askBedsAndRacks(ReservoirWall x, Answers to) {
        int beds = x.about(3);
        to.add(beds);
        for (int bed = 0; bed < beds && bed < 6; bed++) {
            to.add(x.bare(bed, -1));
            for (int i = 0; i <= 3; i++) {
                to.add(x.bare(bed, i));
                to.add(x.spot(bed, i, 0));
                to.add(x.spot(bed, i, 1));
            }
        }
        to.add(x.bare(beds - 1, 0));
        int racks = x.about(5);
        to.add(racks);
        for (int rack = 0; rack < racks; rack++) {
            for (int i = 0; i <= 6; i++) {
                to.add(x.hung(rack, i));
            }
        }
        int things = x.about(4);
        to.add(things);
        for (int thing = 0; thing < things; thing++) {
            to.add(x.says(thing, 0));
            to.add(x.says(thing, 1));
        }
    }

    private static void askBoxesAndCards(ReservoirWall x, Answers to) {
        for (int box = 0; box < 10; box++) {
            to.add(x.used(box));
            for (int kind = 0; kind <= 13; kind += box < 5 ? 1 : 13) {
                to.add(x.isA(box, kind));
            }
        }
        int cards = x.about(6);
        to.add(cards);
        for (int card = 0; card < cards; card++) {
            for (int f = 0; f < 8; f++) {
                to.add(x.fieldOf(card, f));
            }
            to.add(x.along(card, 1));
            to.add(x.cardAsk(card, 1));
        }
    }

    private static void askActs(ReservoirWall x, Answers to) {
        for (int what = 0; what <= 10; what++) {
            to.add(x.about(what));
        }
        for (int gate = 0; gate < 4; gate++) {
            to.add(x.gate(gate, 0));
            to.add(x.gate(gate, 1));
        }
        for (int i = -1; i <= 60; i++) {
            to.add(x.signal(i));
        }
        long stock = x.stock(0);
        to.add(stock);
        x.stock(stock);
        for (int plan = 0; plan < 12; plan++) {
            to.add(x.act(plan));
            for (int what = 0; what <= 4; what++) {
                to.add(x.raised(what));
            }
            to.add(x.wipe(plan));
        }
        for (int gate = 0; gate < 4; gate++) {
            to.add(x.gate(gate, 1));
        }
        to.add(x.about(7));
        to.add(x.stock(0));
        for (int row = 0; row < 10; row++) {
            to.add(x.mean(row));
        }
    }

    private static void askLake(ReservoirWall x, Answers to) {
        for (int gate = 0; gate < 4; gate++) {
            for (int what = 0; what <= 2; what++) {
                to.add(x.moved(gate, what));
            }
        }
        askStep(x, to);
        for (int step = 0; step < 5; step++) {
            to.add(x.run(bits(50.0), bits(5.0)));
            askStep(x, to);
            x.reading(0, bits(9.0));
        }
    }

    private static void askStep(ReservoirWall x, Answers to) {
        for (int what = 0; what <= 13; what++) {
            to.add(x.lake(what));
        }
        for (int gauge = 0; gauge < 6; gauge++) {
            to.add(x.heard(gauge));
        }
        to.add(x.about(1));
    }

    private static void askLawAndFloods(ReservoirWall x, Answers to) {
        double[] levels = {-1.0, 0.0, 5.0, 8.0, 9.5, 39.0, 50.0};
        for (double level : levels) {
            for (int day : new int[] {0, 3, 100, 365}) {
                to.add(x.ruleAt(day, bits(level)));
            }
        }
        for (int right = 0; right < 12; right++) {
            to.add(x.has(right));
        }
        to.add(x.part(777));
        for (int right = 0; right < 12; right++) {
            to.add(x.has(right));
        }
        to.add(x.close());
        int hours = x.hours(1);
        to.add(hours);
        for (int n = 1; n <= 4; n++) {
            x.hours(n);
            for (int run = 0; run < 6; run++) {
                to.add(x.peak(run));
                to.add(x.routed(run, 3, n - 1));
            }
            to.add(x.chance(bits(0.0), 1));
            to.add(x.chance(bits(400001.0), 0));
        }
        x.hours(hours);
        for (int k = 0; k < 8; k++) {
            to.add(x.regret(k));
        }
        to.add(x.chosen());
    }

    private static void askBook(ReservoirWall x, Answers to) {
        int rows = x.open();
        to.add(rows);
        for (int i = 0; i < rows && i < 4; i++) {
            to.add(x.opened(i, 0));
            to.add(x.opened(i, 1));
            to.add(x.opened(i, 2));
            to.add(x.opened(i, 10));
        }
        for (int what = 0; what <= 2; what++) {
            for (int k = -1; k <= 2; k++) {
                to.add(x.lost(what, k));
            }
        }
    }

    private static void askPages(ReservoirWall x, Answers to, int from, int below) {
        for (int page = from; page < below; page++) {
            for (int i = 0; i < 32; i++) {
                to.add(x.pageByte(page, i));
            }
        }
        // The next BOOKING shows whether a refused one has moved on.
        to.add(x.book(0));
        to.add(x.about(10));
    }

    /** What was answered, in order. */
    static final class Answers {
        private long[] all = new long[64];
        private int count;

        void add(long answer) {
            if (count == all.length) {
                all = java.util.Arrays.copyOf(all, 2 * count);
            }
            all[count++] = answer;
        }

        /** The first place at which they are unlike, or -1. */
        int unlikeAt(Answers other) {
            for (int i = 0; i < Math.max(count, other.count); i++) {
                if (i >= count || i >= other.count || all[i] != other.all[i]) {
                    return i;
                }
            }
            return -1;
        }
    }
}
