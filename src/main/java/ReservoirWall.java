import java.util.ArrayList;

/** A reservoir wall, as ../shared/DOC.md promises it. */
public final class ReservoirWall {
    public static final int NONE = -1, UNKNOWN = -2000000001, OUTSIDE = -2000000002, STATE = -2000000003, FULL = -2000000004, FAILED = -2000000010;

    private static final int NULL = 1, INDEX = 2, SIZE = 3, CAST = 4, STORE = 5, ARITHMETIC = 6, HELD = 7, WORD = 8;
    private static final int SHORT = 0, INT = 1, FLOAT = 2, DOUBLE = 3, CHAR = 4, BYTE = 5, TRUTH = 6, LONG = 7;

    private static final int MOST_ROWS = 40, MOST_CELLS = 64, MOST_BEDS = 20, MOST_STRIPS = 16;
    private static final int MOST_THINGS = 40, MOST_LOAD = 1000, MOST_RACKS = 20, MOST_PLACES = 16, MOST_CARDS = 20;
    private static final int BOXES = 10, GATES = 4, GAUGES = 6, DAYS = 366, MOST_ALONG = 100;
    private static final int IN_BOX_ROW = 1, IN_BOX_THING = 2, IN_BOX_RACK = 3, IN_BOX_BED = 4;
    private static final int LAST_BOX_KIND = 13, LAST_ASK = 5, LAST_BUILT = 9;
    private static final long MOST_STOCK = 1000000000000000L;

    private static final long NO_NUMBER = 0x7FF8000000000000L, ENDLESS = 0x7FF0000000000000L;
    private static final long SIGN_BIT = 0x8000000000000000L, ALL_BUT_SIGN = 0x7FFFFFFFFFFFFFFFL;
    private static final long LEADING_BIT = 0x10000000000000L, FRACTION = 0xFFFFFFFFFFFFFL;
    private static final long LEAST_LONG = 0x8000000000000000L, GREATEST_LONG = 0x7FFFFFFFFFFFFFFFL;

    private final ArrayList<Row> rows;
    private final ArrayList<Bed> beds = new ArrayList<Bed>();
    private final ArrayList<Thing> things = new ArrayList<Thing>();
    private final ArrayList<Rack> racks = new ArrayList<Rack>();
    private final ArrayList<Card> cards = new ArrayList<Card>();
    private final int[] boxWhat = new int[BOXES];
    private final int[] boxNumber = new int[BOXES];
    private final Acts acts = new Acts();
    private final Lake water = new Lake();
    private final Law law;
    private final Floods floods = new Floods();
    private final Book pages = new Book();
    private int failure;
    private int failureWord;

    public ReservoirWall() {
        // Acts write to rows and the lake asks the law, so each is kept where it is needed most.
        rows = acts.rows;
        law = water.law;
    }

    // ---- rows, beds

    public int row(int kind, int n) {
        if (!between(kind, 0, LONG) || n > MOST_CELLS) {
            return OUTSIDE;
        }
        if (rows.size() >= MOST_ROWS) {
            return FULL;
        }
        if (n < 0) {
            return failed(SIZE);
        }
        rows.add(new Row(kind, n));
        return well(rows.size() - 1);
    }

    public int put(int row, int i, long v) {
        Row cells = rowAt(row);
        int stop = stopAtCell(row, cells, i);
        if (stop != 0 || cells == null) {
            return stop;
        }
        cells.cells[i] = Row.fromWhole(cells.kind, v);
        return 1;
    }

    public int putReal(int row, int i, long bits) {
        Row cells = rowAt(row);
        int stop = stopAtCell(row, cells, i);
        if (stop != 0 || cells == null) {
            return stop;
        }
        cells.cells[i] = Row.fromReal(cells.kind, bits);
        return 1;
    }

    public long get(int row, int i) {
        Row cells = rowAt(row);
        int stop = stopAtCell(row, cells, i);
        if (stop != 0 || cells == null) {
            return stop;
        }
        return Row.asWhole(cells.kind, cells.cells[i]);
    }

    public long getReal(int row, int i) {
        Row cells = rowAt(row);
        int stop = stopAtCell(row, cells, i);
        if (stop != 0 || cells == null) {
            return stop;
        }
        return Row.asReal(cells.kind, cells.cells[i]);
    }

    public long raise(int row, int i, long v, boolean before) {
        Row cells = rowAt(row);
        int stop = stopAtCell(row, cells, i);
        if (stop != 0 || cells == null) {
            return stop;
        }
        long was = cells.cells[i];
        cells.cells[i] = Row.moreBy(cells.kind, was, v);
        return Row.asWhole(cells.kind, before ? was : cells.cells[i]);
    }

    public int join(int a, int b) {
        Row first = rowAt(a);
        Row second = rowAt(b);
        if (first == null && a != NONE || second == null && b != NONE) {
            return UNKNOWN;
        }
        if (first == null || second == null) {
            return failed(NULL);
        }
        int n = first.cells.length + second.cells.length;
        if (n > MOST_CELLS) {
            return OUTSIDE;
        }
        if (rows.size() >= MOST_ROWS) {
            return FULL;
        }
        if (first.kind != second.kind) {
            return failed(STORE);
        }
        Row joined = new Row(first.kind, n);
        System.arraycopy(first.cells, 0, joined.cells, 0, first.cells.length);
        System.arraycopy(second.cells, 0, joined.cells, first.cells.length, second.cells.length);
        rows.add(joined);
        return well(rows.size() - 1);
    }

    public int shift(int from, int i, int to, int k, int n) {
        Row source = rowAt(from);
        Row target = rowAt(to);
        if (source == null && from != NONE || target == null && to != NONE) {
            return UNKNOWN;
        }
        if (source == null || target == null) {
            return failed(NULL);
        }
        if (source.kind != target.kind) {
            return failed(STORE);
        }
        if (!spans(i, n, source.cells.length) || !spans(k, n, target.cells.length)) {
            return failed(INDEX);
        }
        System.arraycopy(source.cells, i, target.cells, k, n);
        return well(1);
    }

    public int like(int a, int b) {
        Row first = rowAt(a);
        Row second = rowAt(b);
        if (first == null && a != NONE || second == null && b != NONE) {
            return UNKNOWN;
        }
        if (first == null || second == null) {
            return first == null && second == null ? 1 : 0;
        }
        return first.isLike(second) ? 1 : 0;
    }

    public int count(int row, int what) {
        Row cells = rowAt(row);
        if (cells == null && row != NONE) {
            return UNKNOWN;
        }
        if (!between(what, 0, 2)) {
            return OUTSIDE;
        }
        if (cells == null) {
            return failed(NULL);
        }
        if (what == 0) {
            return well(cells.cells.length);
        }
        return well(what == 1 ? cells.kind : cells.notZero());
    }

    public int find(int row, long v) {
        Row cells = rowAt(row);
        if (cells == null) {
            return nullOrUnknown(row);
        }
        return well(cells.lastOf(v));
    }

    public long mean(int row) {
        Row cells = rowAt(row);
        if (cells == null) {
            return nullOrUnknown(row);
        }
        int n = cells.cells.length;
        if (n == 0) {
            return failed(ARITHMETIC);
        }
        return wellLong(cells.sumOfWholes() / n);
    }

    public int bed(int kind, int strips, int cells) {
        if (kind != INT && kind != DOUBLE && kind != TRUTH || strips > MOST_STRIPS || cells > MOST_CELLS) {
            return OUTSIDE;
        }
        if (beds.size() >= MOST_BEDS) {
            return FULL;
        }
        if (strips < 0 || cells < NONE) {
            return failed(SIZE);
        }
        Bed made = new Bed(kind, strips);
        if (cells != NONE) {
            for (int i = 0; i < strips; i++) {
                made.strips[i] = new Row(kind, cells);
            }
        }
        beds.add(made);
        return well(beds.size() - 1);
    }

    public int lay(int bed, int i, int row) {
        Bed under = bedAt(bed);
        Row laid = rowAt(row);
        if (under == null || laid == null && row != NONE) {
            return UNKNOWN;
        }
        if (!under.reaches(i)) {
            return failed(INDEX);
        }
        if (laid != null && laid.kind != under.kind) {
            return failed(STORE);
        }
        under.strips[i] = laid;
        return well(1);
    }

    public long spot(int bed, int i, int j) {
        Bed under = bedAt(bed);
        Row strip = stripAt(under, i);
        int stop = stopAtSpot(under, i, strip, j);
        if (stop != 0 || strip == null) {
            return stop;
        }
        return Row.asWhole(strip.kind, strip.cells[j]);
    }

    public int setSpot(int bed, int i, int j, long v) {
        Bed under = bedAt(bed);
        Row strip = stripAt(under, i);
        int stop = stopAtSpot(under, i, strip, j);
        if (stop != 0 || strip == null) {
            return stop;
        }
        strip.cells[j] = Row.fromWhole(strip.kind, v);
        return 1;
    }

    public int bare(int bed, int k) {
        Bed under = bedAt(bed);
        if (under == null) {
            return UNKNOWN;
        }
        return k == -1 ? under.countBare() : under.bareStrip(k);
    }

    // ---- things, racks, boxes, cards

    public int thing(int sort, int load) {
        if (!between(sort, 0, Thing.STONE) || !between(load, 0, MOST_LOAD)) {
            return OUTSIDE;
        }
        if (things.size() >= MOST_THINGS) {
            return FULL;
        }
        things.add(new Thing(things.size(), sort, load));
        return things.size() - 1;
    }

    public int says(int thing, int ask) {
        Thing teller = thingAt(thing);
        if (teller == null && thing != NONE) {
            return UNKNOWN;
        }
        if (!between(ask, 0, LAST_ASK)) {
            return OUTSIDE;
        }
        return answerOf(teller, ask);
    }

    public int rack(int built, int n) {
        if (!between(built, 0, LAST_BUILT) || n > MOST_PLACES) {
            return OUTSIDE;
        }
        if (racks.size() >= MOST_RACKS) {
            return FULL;
        }
        if (n < 0) {
            return failed(SIZE);
        }
        racks.add(new Rack(built, n));
        return well(racks.size() - 1);
    }

    public int hang(int rack, int i, int thing) {
        Rack onto = rackAt(rack);
        Thing hanging = thingAt(thing);
        if (onto == null && rack != NONE || hanging == null && thing != NONE) {
            return UNKNOWN;
        }
        if (onto == null) {
            return failed(NULL);
        }
        if (!onto.reaches(i)) {
            return failed(INDEX);
        }
        if (hanging != null && !hanging.fits(onto.built)) {
            return failed(STORE);
        }
        onto.places[i] = hanging;
        return well(1);
    }

    public int down(int rack, int i, int as) {
        Rack off = rackAt(rack);
        if (off == null && rack != NONE) {
            return UNKNOWN;
        }
        if (!between(as, 0, LAST_BUILT)) {
            return OUTSIDE;
        }
        if (off == null) {
            return failed(NULL);
        }
        if (!off.reaches(i)) {
            return failed(INDEX);
        }
        Thing hanging = off.places[i];
        if (hanging == null) {
            return well(NONE);
        }
        if (!hanging.fits(as)) {
            return failed(CAST);
        }
        off.places[i] = null;
        return well(hanging.number);
    }

    public int hung(int rack, int i) {
        Rack on = rackAt(rack);
        if (on == null) {
            return nullOrUnknown(rack);
        }
        if (!on.reaches(i)) {
            return failed(INDEX);
        }
        Thing hanging = on.places[i];
        return well(hanging == null ? NONE : hanging.number);
    }

    public int asked(int rack, int i, int ask) {
        Rack on = rackAt(rack);
        if (on == null && rack != NONE) {
            return UNKNOWN;
        }
        if (!between(ask, 0, LAST_ASK)) {
            return OUTSIDE;
        }
        if (on == null) {
            return failed(NULL);
        }
        if (!on.reaches(i)) {
            return failed(INDEX);
        }
        return answerOf(on.places[i], ask);
    }

    public int haul(int from, int i, int to, int k, int n) {
        Rack source = rackAt(from);
        Rack target = rackAt(to);
        if (source == null && from != NONE || target == null && to != NONE) {
            return UNKNOWN;
        }
        if (source == null || target == null) {
            return failed(NULL);
        }
        if (!spans(i, n, source.places.length) || !spans(k, n, target.places.length)) {
            return failed(INDEX);
        }
        int moved = source.moveTo(target, i, k, n);
        return moved < n ? failedWith(STORE, moved) : well(n);
    }

    public int box(int box, int what, int number) {
        if (!between(box, 0, BOXES - 1)) {
            return UNKNOWN;
        }
        if (!between(what, 0, IN_BOX_BED)) {
            return OUTSIDE;
        }
        if (what != 0 && !between(number, 0, howManyFor(what) - 1)) {
            return UNKNOWN;
        }
        boxWhat[box] = what;
        boxNumber[box] = number;
        return 1;
    }

    public int isA(int box, int kind) {
        if (!between(box, 0, BOXES - 1)) {
            return UNKNOWN;
        }
        if (!between(kind, 0, LAST_BOX_KIND)) {
            return OUTSIDE;
        }
        return holdsSuch(boxWhat[box], boxNumber[box], kind) ? 1 : 0;
    }

    public int taken(int box, int kind) {
        if (!between(box, 0, BOXES - 1)) {
            return UNKNOWN;
        }
        if (!between(kind, 0, LAST_BOX_KIND)) {
            return OUTSIDE;
        }
        int what = boxWhat[box];
        if (what == 0) {
            return well(NONE);
        }
        if (!holdsSuch(what, boxNumber[box], kind)) {
            return failed(CAST);
        }
        return well(what == IN_BOX_THING ? boxNumber[box] : sizeOf(what, boxNumber[box]));
    }

    public int used(int box) {
        if (!between(box, 0, BOXES - 1)) {
            return UNKNOWN;
        }
        if (boxWhat[box] == 0) {
            return failed(NULL);
        }
        return well(sizeOf(boxWhat[box], boxNumber[box]));
    }

    public int card() {
        if (cards.size() >= MOST_CARDS) {
            return FULL;
        }
        cards.add(new Card());
        return cards.size() - 1;
    }

    public int field(int card, int f, long v) {
        Card on = cardAt(card);
        int stop = stopAtField(card, on, f);
        if (stop != 0 || on == null) {
            return stop;
        }
        on.fields[f] = Row.fromWhole(Card.KINDS[f], v);
        return 1;
    }

    public long fieldOf(int card, int f) {
        Card on = cardAt(card);
        int stop = stopAtField(card, on, f);
        if (stop != 0 || on == null) {
            return stop;
        }
        return Row.asWhole(Card.KINDS[f], on.fields[f]);
    }

    public long raiseField(int card, int f, long v, boolean before) {
        Card on = cardAt(card);
        int stop = stopAtField(card, on, f);
        if (stop != 0 || on == null) {
            return stop;
        }
        int kind = Card.KINDS[f];
        long was = on.fields[f];
        on.fields[f] = Row.moreBy(kind, was, v);
        return Row.asWhole(kind, before ? was : on.fields[f]);
    }

    public int link(int card, int next, int thing) {
        Card on = cardAt(card);
        if (on == null && card != NONE || cardAt(next) == null && next != NONE || thingAt(thing) == null && thing != NONE) {
            return UNKNOWN;
        }
        if (on == null) {
            return failed(NULL);
        }
        on.next = next;
        on.thing = thing;
        return well(1);
    }

    public int along(int card, int n) {
        Card on = cardAt(card);
        if (on == null && card != NONE) {
            return UNKNOWN;
        }
        if (!between(n, 0, MOST_ALONG)) {
            return OUTSIDE;
        }
        if (on == null) {
            return failed(NULL);
        }
        int number = card;
        for (int i = 0; i < n; i++) {
            number = nextOf(number);
        }
        return well(number);
    }

    public int ring(int card) {
        if (cardAt(card) == null) {
            return nullOrUnknown(card);
        }
        // A set of at most 20 cards fits into the bits of an int.
        int seen = 0;
        int number = card;
        for (int i = 0; i <= MOST_CARDS && number != NONE; i++) {
            int mark = 1 << number;
            if ((seen & mark) != 0) {
                return well(number);
            }
            seen |= mark;
            number = nextOf(number);
        }
        return well(NONE);
    }

    public int cardAsk(int card, int ask) {
        Card on = cardAt(card);
        if (on == null && card != NONE) {
            return UNKNOWN;
        }
        if (!between(ask, 0, LAST_ASK)) {
            return OUTSIDE;
        }
        return answerOf(on == null ? null : thingAt(on.thing), ask);
    }

    public int copy(int card) {
        Card from = cardAt(card);
        if (from == null) {
            return nullOrUnknown(card);
        }
        if (cards.size() >= MOST_CARDS) {
            return FULL;
        }
        Card made = new Card();
        System.arraycopy(from.fields, 0, made.fields, 0, made.fields.length);
        made.next = from.next;
        made.thing = from.thing;
        cards.add(made);
        return well(cards.size() - 1);
    }

    // ---- flows, sums

    public long flow(int row, int what) {
        Row cells = rowAt(row);
        if (cells == null && row != NONE) {
            return UNKNOWN;
        }
        if (!between(what, 0, 6)) {
            return OUTSIDE;
        }
        if (cells == null) {
            return failed(NULL);
        }
        if (!cells.ofReals()) {
            return STATE;
        }
        return wellLong(cells.flowOf(what));
    }

    public int test(int row, int i, int j, int op, boolean denied) {
        Row cells = rowAt(row);
        if (cells == null && row != NONE) {
            return UNKNOWN;
        }
        if (!between(op, 0, 5)) {
            return OUTSIDE;
        }
        if (cells == null) {
            return failed(NULL);
        }
        if (!cells.ofReals()) {
            return STATE;
        }
        if (!cells.reaches(i) || !cells.reaches(j)) {
            return failed(INDEX);
        }
        return well(stands(cells.cells[i], cells.cells[j], op) != denied ? 1 : 0);
    }

    public long quotient(long a, long b, int what) {
        if (!between(what, 0, 5)) {
            return OUTSIDE;
        }
        if (what == 4) {
            return wellLong(heldSum(a, b));
        }
        if (what == 5) {
            return wellLong(heldDifference(a, b));
        }
        // The least int by -1 must go round as an int does, so the cut comes behind the division.
        long dividend = what < 2 ? a : (int) a;
        long divisor = what < 2 ? b : (int) b;
        if (divisor == 0) {
            return failed(ARITHMETIC);
        }
        if (what == 0 || what == 1) {
            return wellLong(what == 0 ? dividend / divisor : dividend % divisor);
        }
        return wellLong(what == 2 ? (int) (dividend / divisor) : (int) (dividend % divisor));
    }

    // ---- acts

    public int step(int plan, int op, int a, int b, int c, int d) {
        if (!between(plan, 0, Acts.PLANS - 1)) {
            return UNKNOWN;
        }
        if (!Acts.allows(op, a, b, c, d)) {
            return OUTSIDE;
        }
        if (acts.stepCount[plan] >= Acts.MOST_STEPS) {
            return FULL;
        }
        acts.addStep(plan, op, a, b, c, d);
        return acts.stepCount[plan];
    }

    public int wipe(int plan) {
        if (!between(plan, 0, Acts.PLANS - 1)) {
            return UNKNOWN;
        }
        int had = acts.stepCount[plan];
        acts.stepCount[plan] = 0;
        return had;
    }

    public int act(int plan) {
        if (!between(plan, 0, Acts.PLANS - 1)) {
            return UNKNOWN;
        }
        acts.begin();
        long end = acts.doPlan(plan, 1);
        acts.finish(end);
        int way = Acts.wayOf(end);
        if (way == Acts.DONE || way == Acts.ANSWERED) {
            return well(way == Acts.DONE ? 0 : 1);
        }
        return failedWith(way, Acts.numberOf(end));
    }

    public int raised(int what) {
        switch (what) {
            case 0:
                return failure;
            case 1:
                return failureWord;
            case 2:
                return acts.answer;
            case 3:
                return acts.begun;
            case 4:
                return acts.putBy;
            default:
                return OUTSIDE;
        }
    }

    public long stock(long n) {
        if (n < 0 || n > MOST_STOCK) {
            return OUTSIDE;
        }
        long was = acts.stock;
        acts.stock = n;
        return was;
    }

    public int gate(int gate, int what) {
        if (!between(gate, 0, GATES - 1)) {
            return UNKNOWN;
        }
        if (!between(what, 0, 1)) {
            return OUTSIDE;
        }
        return what == 0 ? acts.depth[gate] : acts.notches[gate];
    }

    public int signal(int i) {
        return between(i, 0, acts.signalCount - 1) ? acts.signals[i] : NONE;
    }

    // ---- the lake

    public long table(int k) {
        if (!between(k, 0, Lake.TOP)) {
            return failed(INDEX);
        }
        return wellLong(Lake.unitsAt(k));
    }

    public long turned(long bits) {
        if (!within(bits, 0.0, Lake.unitsAt(Lake.TOP))) {
            return OUTSIDE;
        }
        return bitsOf(Lake.levelOf(realOf(bits)));
    }

    public int reading(int gauge, long bits) {
        if (!between(gauge, 0, GAUGES - 1)) {
            return UNKNOWN;
        }
        if (isNumber(bits) && !within(bits, -1000.0, 1000.0)) {
            return OUTSIDE;
        }
        water.gauges.next[gauge] = oneNoNumber(bits);
        return 1;
    }

    public int word(long bits) {
        if (isNumber(bits) && !within(bits, 0.0, 100.0)) {
            return OUTSIDE;
        }
        water.gauges.word = oneNoNumber(bits);
        return 1;
    }

    public int stuck(int gate, boolean is) {
        if (!between(gate, 0, GATES - 1)) {
            return UNKNOWN;
        }
        int was = water.stuck[gate] ? 1 : 0;
        water.stuck[gate] = is;
        return was;
    }

    public int hand(int gate, long bits) {
        if (!between(gate, 0, GATES - 1)) {
            return UNKNOWN;
        }
        if (isNumber(bits) && !within(bits, 0.0, 1.0)) {
            return OUTSIDE;
        }
        water.setHand(gate, bits);
        return 1;
    }

    public int rate(long bits) {
        if (!within(bits, 0.0, 1.0)) {
            return OUTSIDE;
        }
        water.rate = realOf(bits);
        return 1;
    }

    public int run(long rain, long warmth) {
        if (!within(rain, 0.0, 1000000.0) || !within(warmth, -100.0, 100.0)) {
            return OUTSIDE;
        }
        return water.nextStep(realOf(rain), realOf(warmth));
    }

    public long lake(int what) {
        if (!between(what, 0, 13)) {
            return OUTSIDE;
        }
        if (what == 2 && water.steps == 0) {
            return NO_NUMBER;
        }
        return bitsOf(water.tell(what));
    }

    public int heard(int gauge) {
        if (!between(gauge, 0, GAUGES - 1)) {
            return UNKNOWN;
        }
        return water.steps == 0 ? NONE : water.gauges.state[gauge];
    }

    public int moved(int gate, int what) {
        if (!between(gate, 0, GATES - 1)) {
            return UNKNOWN;
        }
        switch (what) {
            case 0:
                return water.moves[gate];
            case 1:
                return water.stuck[gate] ? 1 : 0;
            case 2:
                return water.hasHand(gate) ? 1 : 0;
            default:
                return OUTSIDE;
        }
    }

    public int about(int what) {
        switch (what) {
            case 0:
                return water.steps;
            case 1:
                return water.unheard;
            case 2:
                return rows.size();
            case 3:
                return beds.size();
            case 4:
                return things.size();
            case 5:
                return racks.size();
            case 6:
                return cards.size();
            case 7:
                return acts.signalCount;
            case 8:
                return law.rules;
            case 9:
                return law.rights;
            case 10:
                return pages.bookings;
            default:
                return OUTSIDE;
        }
    }

    // ---- rules, rights, floods

    public int rule(int rank, int from, int to, long low, long high, long out) {
        if (!between(rank, 0, Law.LAST_RANK) || from < 0 || from > to || to >= DAYS) {
            return OUTSIDE;
        }
        if (!isNumber(low) || !isNumber(high) || !within(out, 0.0, 1000000.0)) {
            return OUTSIDE;
        }
        if (law.rules >= Law.MOST) {
            return FULL;
        }
        law.addRule(rank, from, to, low, high, out);
        return law.rules - 1;
    }

    public int ruleAt(int day, long level) {
        if (!between(day, 0, DAYS - 1) || !isNumber(level)) {
            return OUTSIDE;
        }
        return law.holding(day, realOf(level));
    }

    public int right(int rank, int share, long most) {
        if (!between(rank, 0, Law.LAST_RANK) || !between(share, 0, 1000) || most < 0 || most > 1000000000000L) {
            return OUTSIDE;
        }
        if (law.rights >= Law.MOST) {
            return FULL;
        }
        law.addRight(rank, share, most);
        return law.rights - 1;
    }

    public long part(long n) {
        if (n < 0 || n > MOST_STOCK) {
            return OUTSIDE;
        }
        return n - law.leftOf(n);
    }

    public long has(int right) {
        return between(right, 0, law.rights - 1) ? law.have[right] : UNKNOWN;
    }

    public long close() {
        return law.takeBack();
    }

    public int hours(int n) {
        if (!between(n, 1, Floods.MOST_HOURS)) {
            return OUTSIDE;
        }
        int were = floods.hours;
        floods.hours = n;
        return were;
    }

    public int ahead(int run, int hour, long bits) {
        if (!between(run, 0, Floods.RUNS - 1)) {
            return UNKNOWN;
        }
        if (!between(hour, 0, Floods.MOST_HOURS - 1) || isNumber(bits) && !within(bits, 0.0, 1000000.0)) {
            return OUTSIDE;
        }
        floods.inflows[run][hour] = Floods.realOrNone(bits);
        return 1;
    }

    public int release(int k, long bits) {
        if (!between(k, 0, Floods.RELEASES - 1)) {
            return UNKNOWN;
        }
        if (isNumber(bits) && !within(bits, 0.0, 1000000.0)) {
            return OUTSIDE;
        }
        floods.releases[k] = Floods.realOrNone(bits);
        return 1;
    }

    public long routed(int run, int k, int hour) {
        if (!between(run, 0, Floods.RUNS - 1) || !floods.isThere(k)) {
            return UNKNOWN;
        }
        if (!between(hour, 0, floods.hours - 1)) {
            return OUTSIDE;
        }
        if (floods.lacks(run)) {
            return NO_NUMBER;
        }
        return bitsOf(floods.volumeBehind(run, floods.releases[k], hour, water.volume));
    }

    public long regret(int k) {
        return floods.isThere(k) ? bitsOf(floods.greatestLoss(k, water.volume)) : UNKNOWN;
    }

    public int chosen() {
        return floods.leastRegretted(water.volume);
    }

    public int peak(int run) {
        return between(run, 0, Floods.RUNS - 1) ? floods.peakHour(run) : UNKNOWN;
    }

    public int chance(long mark, int part) {
        if (!between(part, 0, 1) || !isNumber(mark)) {
            return OUTSIDE;
        }
        return part == 0 ? floods.runsAbove(realOf(mark)) : floods.wholeRuns();
    }

    // ---- the book

    public int book(int row) {
        Row cells = rowAt(row);
        if (cells == null) {
            return nullOrUnknown(row);
        }
        if (cells.cells.length > Book.MOST_BYTES) {
            return OUTSIDE;
        }
        if (pages.bookings >= Book.MOST_BOOKINGS) {
            return FULL;
        }
        pages.enter(cells);
        return well(pages.bookings);
    }

    public int pageByte(int page, int i) {
        if (!Book.reaches(page, i)) {
            return failed(INDEX);
        }
        return well(pages.byteAt(page, i));
    }

    public int damage(int page, int i, int mask) {
        if (!between(mask, 1, 255)) {
            return OUTSIDE;
        }
        if (!Book.reaches(page, i)) {
            return failed(INDEX);
        }
        pages.setByte(page, i, pages.byteAt(page, i) ^ mask);
        return well(1);
    }

    public int tear(int page, int i) {
        if (!between(page, 0, Book.PAGES - 1)) {
            return UNKNOWN;
        }
        if (!between(i, 0, Book.PAGE_BYTES)) {
            return OUTSIDE;
        }
        for (int at = i; at < Book.PAGE_BYTES; at++) {
            pages.setByte(page, at, 0);
        }
        return 1;
    }

    public int twin(int from, int to) {
        if (!between(from, 0, Book.PAGES - 1) || !between(to, 0, Book.PAGES - 1)) {
            return UNKNOWN;
        }
        for (int i = 0; i < Book.PAGE_BYTES; i++) {
            pages.setByte(to, i, pages.byteAt(from, i));
        }
        return 1;
    }

    public int open() {
        return pages.countRows();
    }

    public int opened(int i, int what) {
        int page = pages.pageOfRow(i);
        if (page == NONE) {
            return UNKNOWN;
        }
        int n = pages.byteAt(page, Book.LENGTH_AT);
        if (what == 0) {
            return pages.numberOn(page);
        }
        if (what == 1 || what == 2) {
            return what == 1 ? n : page;
        }
        return between(what, 10, 9 + n) ? pages.byteAt(page, Book.BYTES_AT + what - 10) : OUTSIDE;
    }

    public int lost(int what, int k) {
        if (!between(what, 0, 2)) {
            return OUTSIDE;
        }
        return k == -1 ? pages.countLost(what) : pages.lostPage(what, k);
    }

    // ---- what calls end with

    private int failed(int number) {
        return failedWith(number, 0);
    }

    private int failedWith(int number, int word) {
        failure = number;
        failureWord = word;
        return FAILED - number;
    }

    private int well(int answer) {
        failure = 0;
        failureWord = 0;
        return answer;
    }

    private long wellLong(long answer) {
        failure = 0;
        failureWord = 0;
        return answer;
    }

    private int nullOrUnknown(int number) {
        return number == NONE ? failed(NULL) : UNKNOWN;
    }

    private int stopAtCell(int number, Row cells, int i) {
        if (cells == null) {
            return nullOrUnknown(number);
        }
        return cells.reaches(i) ? well(0) : failed(INDEX);
    }

    private int stopAtSpot(Bed under, int i, Row strip, int j) {
        if (under == null) {
            return UNKNOWN;
        }
        if (!under.reaches(i)) {
            return failed(INDEX);
        }
        if (strip == null) {
            return failed(NULL);
        }
        return strip.reaches(j) ? well(0) : failed(INDEX);
    }

    private int stopAtField(int number, Card on, int f) {
        if (on == null && number != NONE) {
            return UNKNOWN;
        }
        if (!between(f, 0, Card.KINDS.length - 1)) {
            return OUTSIDE;
        }
        return on == null ? failed(NULL) : well(0);
    }

    private int answerOf(Thing teller, int ask) {
        if (teller == null) {
            return failed(NULL);
        }
        return teller.hasFaceFor(ask) ? well(teller.tell(ask)) : failed(CAST);
    }

    // ---- what numbers name

    private Row rowAt(int number) {
        return between(number, 0, rows.size() - 1) ? rows.get(number) : null;
    }

    private Bed bedAt(int number) {
        return between(number, 0, beds.size() - 1) ? beds.get(number) : null;
    }

    private Thing thingAt(int number) {
        return between(number, 0, things.size() - 1) ? things.get(number) : null;
    }

    private Rack rackAt(int number) {
        return between(number, 0, racks.size() - 1) ? racks.get(number) : null;
    }

    private Card cardAt(int number) {
        return between(number, 0, cards.size() - 1) ? cards.get(number) : null;
    }

    private static Row stripAt(Bed under, int i) {
        return under != null && under.reaches(i) ? under.strips[i] : null;
    }

    private int nextOf(int number) {
        Card on = cardAt(number);
        return on == null ? NONE : on.next;
    }

    private int howManyFor(int what) {
        switch (what) {
            case IN_BOX_ROW:
                return rows.size();
            case IN_BOX_THING:
                return things.size();
            case IN_BOX_RACK:
                return racks.size();
            case IN_BOX_BED:
                return beds.size();
            default:
                return 0;
        }
    }

    private boolean holdsSuch(int what, int number, int kind) {
        switch (what) {
            case IN_BOX_ROW:
                Row cells = rowAt(number);
                return cells != null && cells.kind == kind;
            case IN_BOX_THING:
                Thing held = thingAt(number);
                return held != null && held.isOfBoxKind(kind);
            case IN_BOX_RACK:
                Rack places = rackAt(number);
                return places != null && places.isOfBoxKind(kind);
            case IN_BOX_BED:
                Bed under = bedAt(number);
                return under != null && kind == LAST_BOX_KIND && under.kind == INT;
            default:
                return false;
        }
    }

    private int sizeOf(int what, int number) {
        switch (what) {
            case IN_BOX_ROW:
                Row cells = rowAt(number);
                return cells == null ? 0 : cells.cells.length;
            case IN_BOX_THING:
                Thing held = thingAt(number);
                return held == null ? 0 : held.tell(Thing.WEIGHT);
            case IN_BOX_RACK:
                Rack places = rackAt(number);
                return places == null ? 0 : places.places.length;
            case IN_BOX_BED:
                Bed under = bedAt(number);
                return under == null ? 0 : under.strips.length;
            default:
                return 0;
        }
    }

    // ---- numbers

    private static boolean between(int x, int low, int high) {
        return x >= low && x <= high;
    }

    private static boolean spans(int from, int n, int length) {
        return from >= 0 && n >= 0 && from <= length && n <= length - from;
    }

    private static long heldSum(long a, long b) {
        if (b > 0 && a > GREATEST_LONG - b) {
            return GREATEST_LONG;
        }
        return b < 0 && a < LEAST_LONG - b ? LEAST_LONG : a + b;
    }

    private static long heldDifference(long a, long b) {
        if (b < 0 && a > GREATEST_LONG + b) {
            return GREATEST_LONG;
        }
        return b > 0 && a < LEAST_LONG + b ? LEAST_LONG : a - b;
    }

    // ---- reals: a double can't hold NO NUMBER here, so what may be none is kept as bits

    private static boolean isNumber(long bits) {
        return (bits & ALL_BUT_SIGN) <= ENDLESS;
    }

    private static long oneNoNumber(long bits) {
        return isNumber(bits) ? bits : NO_NUMBER;
    }

    private static boolean within(long bits, double low, double high) {
        if (!isNumber(bits)) {
            return false;
        }
        double x = realOf(bits);
        return x >= low && x <= high;
    }

    /** The double of the bits of a number. */
    private static double realOf(long bits) {
        int exponent = (int) (bits >>> 52) & 0x7FF;
        long fraction = bits & FRACTION;
        double size;
        if (exponent == 0x7FF) {
            size = greatestDouble() * 2.0;
        } else if (exponent == 0) {
            size = (double) fraction * powerOfTwo(-1074);
        } else {
            size = (double) (fraction | LEADING_BIT) * powerOfTwo(exponent - 1075);
        }
        // Times -1.0, as 0.0 less 0.0 would lose the sign of -0.0.
        return bits < 0 ? size * -1.0 : size;
    }

    private static long bitsOf(double x) {
        // By 1.0 / x alone -0.0 differs from 0.0.
        boolean negative = x < 0.0 || x == 0.0 && 1.0 / x < 0.0;
        long sign = negative ? SIGN_BIT : 0L;
        double size = x < 0.0 ? 0.0 - x : x;
        if (size == 0.0) {
            return sign;
        }
        return size > greatestDouble() ? sign | ENDLESS : sign | bitsOfSize(size);
    }

    private static long bitsOfSize(double size) {
        int exponent = 0;
        double scaled = size;
        // The least ones need more than the 1023 that the powers below make together.
        if (scaled < 1.0E-300) {
            scaled = scaled * twoToThe(128);
            exponent = -128;
        }
        for (int by = 512; by >= 1; by = by >> 1) {
            double power = twoToThe(by);
            if (scaled >= power) {
                scaled = scaled / power;
                exponent += by;
            } else if (scaled * power < 2.0) {
                scaled = scaled * power;
                exponent -= by;
            }
        }
        long fraction = (long) (scaled * LEADING_BIT);
        if (exponent >= -1022) {
            return ((long) (exponent + 1023) << 52) + (fraction - LEADING_BIT);
        }
        int beyond = -1022 - exponent;
        return beyond < 64 ? fraction >> beyond : 0L;
    }

    /** For 1, 2, 4 .. 512; written out, as no static array may hold doubles. */
    private static double twoToThe(int by) {
        switch (by) {
            case 512:
                return 1.3407807929942597E154;
            case 256:
                return 1.157920892373162E77;
            case 128:
                return 3.4028236692093846E38;
            case 64:
                return 1.8446744073709552E19;
            case 32:
                return 4294967296.0;
            case 16:
                return 65536.0;
            case 8:
                return 256.0;
            case 4:
                return 16.0;
            case 2:
                return 4.0;
            default:
                return 2.0;
        }
    }

    private static boolean haveSameBits(double x, double y) {
        return x == y && (x != 0.0 || 1.0 / x == 1.0 / y);
    }

    private static double greatestDouble() {
        return 1.7976931348623157E308;
    }

    /** Exact for exponents -1074 to 1023. */
    private static double powerOfTwo(int exponent) {
        double power = 1.0;
        double factor = exponent < 0 ? 0.5 : 2.0;
        int rest = exponent < 0 ? -exponent : exponent;
        for (int i = 0; i < 11; i++) {
            if ((rest >> i & 1) != 0) {
                power = power * factor;
            }
            factor = factor * factor;
        }
        return power;
    }

    /** The root as doubles have it (the nearest double), bit by bit; 0.0 of 0.0 and below. */
    private static double rootOf(double x) {
        if (!(x > 0.0)) {
            return 0.0;
        }
        long bits = bitsOf(x);
        int exponent = (int) (bits >> 52);
        long rest = bits & FRACTION;
        if (exponent == 0) {
            exponent = 1;
            for (int i = 0; i < 52 && rest < LEADING_BIT; i++) {
                rest = rest << 1;
                exponent--;
            }
        } else {
            rest |= LEADING_BIT;
        }
        exponent -= 1023;
        rest = rest << ((exponent & 1) == 0 ? 1 : 2);
        long root = 0;
        long twice = 0;
        long bit = LEADING_BIT << 1;
        for (int i = 0; i < 54; i++) {
            long tried = twice + bit;
            if (tried <= rest) {
                twice = tried + bit;
                rest -= tried;
                root += bit;
            }
            rest = rest << 1;
            bit = bit >> 1;
        }
        // The last bit of root is half a unit; with something left over it rounds up.
        if (rest != 0) {
            root += root & 1;
        }
        return realOf((root >> 1) + ((long) ((exponent >> 1) + 1022) << 52));
    }

    private static boolean stands(long first, long second, int op) {
        if (!isNumber(first) || !isNumber(second)) {
            return op == 5;
        }
        double a = realOf(first);
        double b = realOf(second);
        switch (op) {
            case 0:
                return a < b;
            case 1:
                return a <= b;
            case 2:
                return a > b;
            case 3:
                return a >= b;
            case 4:
                return a == b;
            default:
                return a != b;
        }
    }

    /** Cells of one KIND: wholes as they are told; of KINDS 2 and 3 the bits of the double. */
    private static final class Row {
        final int kind;
        final long[] cells;

        Row(int kind, int n) {
            this.kind = kind;
            this.cells = new long[n < 0 ? 0 : n];
        }

        static long fromWhole(int kind, long v) {
            switch (kind) {
                case SHORT:
                    return (short) v;
                case INT:
                    return (int) v;
                case FLOAT:
                    return bitsOf((double) (float) v);
                case DOUBLE:
                    return bitsOf((double) v);
                case CHAR:
                    return (char) v;
                case BYTE:
                    return (byte) v;
                case TRUTH:
                    return v != 0 ? 1 : 0;
                default:
                    return v;
            }
        }

        static long fromReal(int kind, long bits) {
            if (kind == DOUBLE) {
                return oneNoNumber(bits);
            }
            if (!isNumber(bits)) {
                return kind == FLOAT ? NO_NUMBER : kind == TRUTH ? 1 : 0;
            }
            double d = realOf(bits);
            switch (kind) {
                case FLOAT:
                    return bitsOf((double) (float) d);
                case TRUTH:
                    return d != 0.0 ? 1 : 0;
                case LONG:
                    return (long) d;
                default:
                    return fromWhole(kind, (int) d);
            }
        }

        static long asWhole(int kind, long cell) {
            if (kind != FLOAT && kind != DOUBLE) {
                return cell;
            }
            return isNumber(cell) ? (long) realOf(cell) : 0;
        }

        static long asReal(int kind, long cell) {
            return kind == FLOAT || kind == DOUBLE ? cell : bitsOf((double) cell);
        }

        static long moreBy(int kind, long cell, long v) {
            switch (kind) {
                case FLOAT:
                    return isNumber(cell) ? bitsOf((double) ((float) realOf(cell) + (float) v)) : cell;
                case DOUBLE:
                    return isNumber(cell) ? bitsOf(realOf(cell) + (double) v) : cell;
                case TRUTH:
                    return (v & 1) != 0 ? 1 - cell : cell;
                default:
                    return fromWhole(kind, cell + v);
            }
        }

        boolean reaches(int i) {
            return i >= 0 && i < cells.length;
        }

        boolean ofReals() {
            return kind == FLOAT || kind == DOUBLE;
        }

        boolean isLike(Row other) {
            if (kind != other.kind || cells.length != other.cells.length) {
                return false;
            }
            for (int i = 0; i < cells.length; i++) {
                if (cells[i] != other.cells[i]) {
                    return false;
                }
            }
            return true;
        }

        int notZero() {
            int n = 0;
            for (int i = 0; i < cells.length; i++) {
                if (asWhole(kind, cells[i]) != 0) {
                    n++;
                }
            }
            return n;
        }

        int lastOf(long v) {
            for (int i = cells.length - 1; i >= 0; i--) {
                if (asWhole(kind, cells[i]) == v) {
                    return i;
                }
            }
            return NONE;
        }

        long sumOfWholes() {
            long sum = 0;
            for (int i = 0; i < cells.length; i++) {
                sum += asWhole(kind, cells[i]);
            }
            return sum;
        }

        long flowOf(int what) {
            int numbers = countNumbers();
            if (numbers == 0 || what >= 4 && numbers < cells.length) {
                return NO_NUMBER;
            }
            switch (what) {
                case 0:
                case 4:
                    return endOfNumbers(false);
                case 1:
                case 5:
                    return endOfNumbers(true);
                case 3:
                    return middleOfNumbers((numbers - 1) / 2);
                default:
                    return meanOfNumbers(numbers);
            }
        }

        private int countNumbers() {
            int n = 0;
            for (int i = 0; i < cells.length; i++) {
                if (isNumber(cells[i])) {
                    n++;
                }
            }
            return n;
        }

        private long endOfNumbers(boolean highest) {
            long end = NO_NUMBER;
            for (int i = 0; i < cells.length; i++) {
                long cell = cells[i];
                if (isNumber(cell) && (!isNumber(end) || stands(cell, end, highest ? 2 : 0))) {
                    end = cell;
                }
            }
            return end;
        }

        private long meanOfNumbers(int numbers) {
            double sum = 0.0;
            double most = greatestDouble();
            for (int i = 0; i < cells.length; i++) {
                if (isNumber(cells[i])) {
                    double x = realOf(cells[i]);
                    // Endless ones against each other are no number, and stay so.
                    if (sum > most && x < 0.0 - most || sum < 0.0 - most && x > most) {
                        return NO_NUMBER;
                    }
                    sum = sum + x;
                }
            }
            return numbers == 0 ? NO_NUMBER : bitsOf(sum / (double) numbers);
        }

        private long middleOfNumbers(int place) {
            for (int i = 0; i < cells.length; i++) {
                if (isNumber(cells[i]) && placeAmongNumbers(i) == place) {
                    return cells[i];
                }
            }
            return NO_NUMBER;
        }

        private int placeAmongNumbers(int i) {
            long own = rising(cells[i]);
            int ahead = 0;
            for (int j = 0; j < cells.length; j++) {
                if (isNumber(cells[j])) {
                    long other = rising(cells[j]);
                    if (other < own || other == own && j < i) {
                        ahead++;
                    }
                }
            }
            return ahead;
        }

        /** Rises as the numbers do, -0.0 ahead of 0.0. */
        private static long rising(long bits) {
            return bits < 0 ? bits ^ ALL_BUT_SIGN : bits;
        }
    }

    private static final class Bed {
        final int kind;
        final Row[] strips;

        Bed(int kind, int n) {
            this.kind = kind;
            this.strips = new Row[n < 0 ? 0 : n];
        }

        boolean reaches(int i) {
            return i >= 0 && i < strips.length;
        }

        int countBare() {
            int n = 0;
            for (int i = 0; i < strips.length; i++) {
                if (strips[i] == null) {
                    n++;
                }
            }
            return n;
        }

        int bareStrip(int k) {
            int n = 0;
            for (int i = 0; i < strips.length; i++) {
                if (strips[i] == null) {
                    if (n == k) {
                        return i;
                    }
                    n++;
                }
            }
            return NONE;
        }
    }

    private static final class Thing {
        static final int FLOATER = 0, WIRE = 1, FLAP = 2, ROLLER = 3, EARTH = 4, STONE = 5;
        static final int READS = 6, STRONG = 7, COSTS = 8;
        static final int SIGN = 0, WEIGHT = 1, READING = 2, STRENGTH = 3, COST = 4;

        final int number;
        final int sort;
        final int load;

        Thing(int number, int sort, int load) {
            this.number = number;
            this.sort = sort;
            this.load = load;
        }

        /** Whether a RACK built so takes it. */
        boolean fits(int built) {
            switch (built) {
                case READS:
                    return sort == FLOATER || sort == WIRE;
                case STRONG:
                    return sort >= FLAP;
                case COSTS:
                    return isHeir();
                default:
                    return built > COSTS || built == sort || isHeir() && built == sort - 1;
            }
        }

        private boolean isHeir() {
            return sort == WIRE || sort == ROLLER || sort == STONE;
        }

        boolean isOfBoxKind(int boxKind) {
            return boxKind == 8 || boxKind == 9 && fits(READS) || boxKind == 10 && sort == WIRE;
        }

        boolean hasFaceFor(int ask) {
            switch (ask) {
                case READING:
                    return fits(READS);
                case STRENGTH:
                    return fits(STRONG);
                case COST:
                    return fits(COSTS);
                default:
                    return true;
            }
        }

        int tell(int ask) {
            switch (ask) {
                case SIGN:
                    return ownSign();
                case WEIGHT:
                    return ownWeight();
                case READING:
                    return sort == WIRE ? 3 * ownWeight() : 10 * ownSign() + ownWeight();
                case STRENGTH:
                    return 5 * ownWeight() + ownSign() + (sort == ROLLER ? 100 : 0);
                case COST:
                    return ownWeight() * ownWeight() - (sort == STONE ? ownSign() : 0);
                default:
                    // AT MAKING the LOAD was 0 still.
                    return 1000 * ownSign();
            }
        }

        private int ownSign() {
            switch (sort) {
                case FLOATER:
                    return 11;
                case WIRE:
                    return 12;
                case FLAP:
                case ROLLER:
                    return 21;
                case EARTH:
                    return 31;
                default:
                    return 32;
            }
        }

        private int ownWeight() {
            return sort == WIRE ? load + 7 : sort == STONE ? 2 * load : load;
        }
    }

    private static final class Rack {
        final int built;
        final Thing[] places;

        Rack(int built, int n) {
            this.built = built;
            this.places = new Thing[n < 0 ? 0 : n];
        }

        boolean reaches(int i) {
            return i >= 0 && i < places.length;
        }

        boolean isOfBoxKind(int boxKind) {
            boolean forFloats = built == Thing.FLOATER || built == Thing.WIRE;
            return boxKind == 11 && (forFloats || built == Thing.READS) || boxKind == 12 && forFloats;
        }

        /** How many of n places came over ahead of the first that the target is not built for. */
        int moveTo(Rack target, int i, int k, int n) {
            // Towards the end of its own places, from the last on: none is written over ahead of its turn.
            if (target == this && k > i) {
                for (int at = n - 1; at >= 0; at--) {
                    places[k + at] = places[i + at];
                }
                return n;
            }
            for (int at = 0; at < n; at++) {
                Thing hanging = places[i + at];
                if (hanging != null && !hanging.fits(target.built)) {
                    return at;
                }
                target.places[k + at] = hanging;
            }
            return n;
        }
    }

    private static final class Card {
        static final int[] KINDS = {BYTE, SHORT, CHAR, INT, LONG, FLOAT, DOUBLE, TRUTH};

        final long[] fields = new long[8];
        int next = NONE;
        int thing = NONE;
    }

    /** PLANS and what they change. How a PLAN is left is one long: the way above, its number below. */
    private static final class Acts {
        static final int PLANS = 12, MOST_STEPS = 12;
        static final int DONE = 0, ANSWERED = 9;
        private static final int STEP_SIZE = 5, MOST_BEGUN = 48, DEEPEST = 8, MOST_SIGNALS = 60, TOP_NOTCH = 100;
        private static final int PUT = 0, TAKE = 1, FAIL = 2, HOLD = 3, TURN = 4, SIGNAL = 5, DO = 6, TRY = 7, ANSWER = 8;
        private static final int TOO_LITTLE = 1, BEYOND = 2, TOO_FAR = 3;

        final ArrayList<Row> rows = new ArrayList<Row>();
        private final int[] steps = new int[PLANS * MOST_STEPS * STEP_SIZE];
        final int[] stepCount = new int[PLANS];
        final int[] depth = new int[GATES];
        final int[] notches = new int[GATES];
        final int[] signals = new int[MOST_SIGNALS];
        int signalCount;
        long stock;
        int answer;
        int begun;
        int putBy;
        private final int[] putRow = new int[MOST_BEGUN];
        private final int[] putCell = new int[MOST_BEGUN];
        private final long[] putOver = new long[MOST_BEGUN];
        private int puts;
        private long stockBefore;

        static int wayOf(long end) {
            return (int) (end >> 32);
        }

        static int numberOf(long end) {
            return (int) end;
        }

        private static long leave(int way, int number) {
            return ((long) way << 32) | (number & 0xFFFFFFFFL);
        }

        static boolean allows(int op, int a, int b, int c, int d) {
            switch (op) {
                case TAKE:
                    return between(a, 0, 1000000000);
                case FAIL:
                    return between(a, NULL, WORD) && between(b, 0, 99);
                case HOLD:
                case TURN:
                    return between(a, 0, GATES - 1);
                case DO:
                    return between(a, 0, PLANS - 1);
                case TRY:
                    return between(a, 0, PLANS - 1) && between(b, 0, 9) && between(c, NONE, PLANS - 1) && between(d, NONE, PLANS - 1);
                default:
                    return between(op, 0, 9);
            }
        }

        void addStep(int plan, int op, int a, int b, int c, int d) {
            int at = placeOf(plan, stepCount[plan]);
            steps[at] = op;
            steps[at + 1] = a;
            steps[at + 2] = b;
            steps[at + 3] = c;
            steps[at + 4] = d;
            stepCount[plan]++;
        }

        private static int placeOf(int plan, int i) {
            return (plan * MOST_STEPS + i) * STEP_SIZE;
        }

        void begin() {
            begun = 0;
            putBy = 0;
            puts = 0;
            stockBefore = stock;
        }

        void finish(long end) {
            int way = wayOf(end);
            answer = way == ANSWERED ? numberOf(end) : 0;
            if (way != DONE && way != ANSWERED) {
                stock = stockBefore;
                giveBackCells();
            }
        }

        private void giveBackCells() {
            for (int i = puts - 1; i >= 0; i--) {
                Row cells = knownRow(putRow[i]);
                if (cells != null && cells.reaches(putCell[i])) {
                    cells.cells[putCell[i]] = putOver[i];
                }
            }
        }

        private Row knownRow(int number) {
            return between(number, 0, rows.size() - 1) ? rows.get(number) : null;
        }

        long doPlan(int plan, int deep) {
            if (deep > DEEPEST) {
                return leave(WORD, TOO_FAR);
            }
            long end = leave(DONE, 0);
            int reached = 0;
            while (reached < stepCount[plan] && wayOf(end) == DONE) {
                if (begun >= MOST_BEGUN) {
                    end = leave(WORD, TOO_FAR);
                    break;
                }
                begun++;
                end = doStep(placeOf(plan, reached), deep);
                reached++;
            }
            letGo(plan, reached);
            return end;
        }

        private void letGo(int plan, int reached) {
            for (int i = reached - 1; i >= 0; i--) {
                int at = placeOf(plan, i);
                if (steps[at] == HOLD) {
                    depth[steps[at + 1]]--;
                }
            }
        }

        private long doStep(int at, int deep) {
            int a = steps[at + 1];
            int b = steps[at + 2];
            switch (steps[at]) {
                case PUT:
                    return putCellOf(a, b, steps[at + 3]);
                case TAKE:
                    return takeOff(a);
                case FAIL:
                    return leave(a, a == WORD ? b : 0);
                case HOLD:
                    depth[a]++;
                    return leave(DONE, 0);
                case TURN:
                    return turnGate(a, b);
                case SIGNAL:
                    return keepSignal(a);
                case DO:
                    return doPlan(a, deep + 1);
                case TRY:
                    return tryPlan(at, deep);
                case ANSWER:
                    return leave(ANSWERED, a);
                default:
                    return addQuotient(a, b);
            }
        }

        private long putCellOf(int row, int i, int v) {
            Row cells = knownRow(row);
            if (cells == null) {
                return leave(NULL, 0);
            }
            if (!cells.reaches(i)) {
                return leave(INDEX, 0);
            }
            if (puts < MOST_BEGUN) {
                putRow[puts] = row;
                putCell[puts] = i;
                putOver[puts] = cells.cells[i];
                puts++;
            }
            cells.cells[i] = Row.fromWhole(cells.kind, v);
            return leave(DONE, 0);
        }

        private long takeOff(int litres) {
            if (litres > stock) {
                return leave(WORD, TOO_LITTLE);
            }
            stock -= litres;
            return leave(DONE, 0);
        }

        private long turnGate(int gate, int by) {
            if (depth[gate] == 0) {
                return leave(HELD, 0);
            }
            long to = (long) notches[gate] + by;
            notches[gate] = to < 0 ? 0 : to > TOP_NOTCH ? TOP_NOTCH : (int) to;
            return leave(DONE, 0);
        }

        private long keepSignal(int number) {
            if (signalCount < MOST_SIGNALS) {
                signals[signalCount] = number;
                signalCount++;
            }
            return leave(DONE, 0);
        }

        private long addQuotient(int a, int b) {
            if (b == 0) {
                return leave(ARITHMETIC, 0);
            }
            long sum = stock + (long) a / b;
            if (sum < 0 || sum > MOST_STOCK) {
                return leave(WORD, BEYOND);
            }
            stock = sum;
            return leave(DONE, 0);
        }

        private long tryPlan(int at, int deep) {
            int caught = steps[at + 2];
            int then = steps[at + 3];
            int last = steps[at + 4];
            long end = doPlan(steps[at + 1], deep + 1);
            if (catches(caught, wayOf(end))) {
                end = then == NONE ? leave(DONE, 0) : doPlan(then, deep + 1);
            }
            if (last == NONE) {
                return end;
            }
            long lastEnd = doPlan(last, deep + 1);
            if (wayOf(lastEnd) == DONE) {
                return end;
            }
            if (wayOf(end) != DONE) {
                putBy++;
            }
            return lastEnd;
        }

        private static boolean catches(int caught, int way) {
            if (way == DONE || way == ANSWERED) {
                return false;
            }
            return caught == 0 || caught == way || caught == 9 && way != WORD;
        }
    }

    /** VOICES: what the GAUGES told at the latest four STEPS, and who of them is believed. */
    private static final class Gauges {
        private static final int HEARD = 0, SILENT = 1, HANGS = 2, JUMPS = 3, KEPT = 4, FAR_ENOUGH = 3;

        final long[] next = new long[GAUGES];
        final int[] state = new int[GAUGES];
        long word = NO_NUMBER;
        private final long[][] told = new long[GAUGES][KEPT];
        private final int[] farInARow = new int[GAUGES];

        Gauges() {
            for (int g = 0; g < GAUGES; g++) {
                next[g] = NO_NUMBER;
                for (int age = 0; age < KEPT; age++) {
                    told[g][age] = NO_NUMBER;
                }
            }
        }

        /** The bits of what is heard at a STEP, or NO NUMBER; the level is that told at the STEP before. */
        long hear(boolean hasBefore, double levelBefore) {
            takeReadings();
            for (int g = 0; g < GAUGES; g++) {
                boolean far = hasBefore && isFar(told[g][0], levelBefore);
                state[g] = stateOf(g, far);
                farInARow[g] = far ? farInARow[g] + 1 : 0;
            }
            long wordNow = word;
            word = NO_NUMBER;
            return isNumber(wordNow) ? wordNow : middleVoice();
        }

        private void takeReadings() {
            for (int g = 0; g < GAUGES; g++) {
                for (int age = KEPT - 1; age > 0; age--) {
                    told[g][age] = told[g][age - 1];
                }
                told[g][0] = next[g];
                next[g] = NO_NUMBER;
            }
        }

        private static boolean isFar(long bits, double level) {
            if (!isNumber(bits)) {
                return false;
            }
            double apart = realOf(bits) - level;
            return apart > 0.5 || apart < -0.5;
        }

        private int stateOf(int g, boolean far) {
            if (!isNumber(told[g][0])) {
                return SILENT;
            }
            if (isAlwaysSame(g) && anotherAltered(g)) {
                return HANGS;
            }
            return far && farInARow[g] < FAR_ENOUGH ? JUMPS : HEARD;
        }

        private boolean isAlwaysSame(int g) {
            for (int age = 1; age < KEPT; age++) {
                if (told[g][age] != told[g][0]) {
                    return false;
                }
            }
            return true;
        }

        private boolean anotherAltered(int g) {
            for (int other = 0; other < GAUGES; other++) {
                if (other != g && hasUnlikeReadings(other)) {
                    return true;
                }
            }
            return false;
        }

        private boolean hasUnlikeReadings(int g) {
            long first = NO_NUMBER;
            for (int age = 0; age < KEPT; age++) {
                long bits = told[g][age];
                if (isNumber(bits) && isNumber(first) && bits != first) {
                    return true;
                }
                if (isNumber(bits)) {
                    first = bits;
                }
            }
            return false;
        }

        private long middleVoice() {
            int heard = 0;
            for (int g = 0; g < GAUGES; g++) {
                if (state[g] == HEARD) {
                    heard++;
                }
            }
            for (int g = 0; g < GAUGES; g++) {
                if (state[g] == HEARD && placeAmongHeard(g) == (heard - 1) / 2) {
                    return told[g][0];
                }
            }
            return NO_NUMBER;
        }

        private int placeAmongHeard(int g) {
            double own = realOf(told[g][0]);
            int ahead = 0;
            for (int other = 0; other < GAUGES; other++) {
                if (state[other] == HEARD) {
                    double x = realOf(told[other][0]);
                    if (x < own || x == own && other < g) {
                        ahead++;
                    }
                }
            }
            return ahead;
        }
    }

    private static final class Lake {
        static final int TOP = 40, SILL = 30;
        private static final int UNHEARD_TOO_LONG = 3;

        final Gauges gauges = new Gauges();
        final Law law = new Law();
        double volume = 100000.0;
        double rate = 0.125;
        int steps;
        int unheard;
        final boolean[] stuck = new boolean[GATES];
        /** Below 0.0: none. */
        private final double[] hands = new double[GATES];
        final int[] moves = new int[GATES];
        private final double[] openings = new double[GATES];
        private final int[] order = new int[GATES];
        private double levelTold;
        private double ground;
        private double snow;
        private double inflow;
        private double out;
        private double spill;
        private double lack;

        Lake() {
            for (int g = 0; g < GATES; g++) {
                hands[g] = NONE;
            }
        }

        void setHand(int gate, long bits) {
            hands[gate] = isNumber(bits) ? realOf(bits) : NONE;
        }

        boolean hasHand(int gate) {
            return hands[gate] >= 0.0;
        }

        static int unitsAt(int k) {
            return 1000 * k * k + 2000 * k;
        }

        static double levelOf(double units) {
            int k = 0;
            for (int i = 1; i < TOP && unitsAt(i) <= units; i++) {
                k = i;
            }
            double line = unitsAt(k);
            double toNext = unitsAt(k + 1) - unitsAt(k);
            return k + (units - line) / toNext;
        }

        double tell(int what) {
            switch (what) {
                case 0:
                    return volume;
                case 1:
                    return levelOf(volume);
                case 2:
                    return levelTold;
                case 3:
                    return ground;
                case 4:
                    return snow;
                case 5:
                    return inflow;
                case 6:
                    return out;
                case 7:
                    return spill;
                case 8:
                    return lack;
                case 9:
                    return rate;
                default:
                    return between(what, 10, 9 + GATES) ? openings[what - 10] : 0.0;
            }
        }

        int nextStep(double rain, double warmth) {
            steps++;
            takeWeather(rain, warmth);
            takeLevel(gauges.hear(steps > 1, levelTold));
            steerGates();
            letOut();
            return steps;
        }

        private void takeWeather(double rain, double warmth) {
            if (warmth > 0.0) {
                double melt = 2.0 * warmth;
                if (snow < melt) {
                    melt = snow;
                }
                snow = snow - melt;
                ground = ground + rain + melt;
            } else {
                snow = snow + rain;
            }
            inflow = ground * 0.25;
            ground = ground - inflow;
        }

        private void takeLevel(long voice) {
            if (isNumber(voice)) {
                levelTold = realOf(voice);
                unheard = 0;
            } else {
                levelTold = levelOf(volume);
                unheard++;
            }
        }

        private void steerGates() {
            orderGates();
            double full = 400.0 * rootOf(levelTold);
            double left = law.wishAt(steps % DAYS, levelTold);
            for (int i = 0; i < GATES; i++) {
                int g = order[i];
                double before = openings[g];
                if (!stuck[g]) {
                    openings[g] = hasHand(g) ? hands[g] : nearer(before, targetOf(left, full));
                }
                // What a stuck gate lets out is no longer left to wish for, either.
                left = left - openings[g] * full;
                if (!haveSameBits(openings[g], before)) {
                    moves[g]++;
                }
            }
        }

        private void orderGates() {
            for (int g = 0; g < GATES; g++) {
                int at = g;
                while (at > 0 && moves[order[at - 1]] > moves[g]) {
                    order[at] = order[at - 1];
                    at--;
                }
                order[at] = g;
            }
        }

        private double targetOf(double left, double full) {
            if (unheard >= UNHEARD_TOO_LONG) {
                return 0.5;
            }
            if (full == 0.0 || !(left > 0.0)) {
                return 0.0;
            }
            double part = left / full;
            return part > 1.0 ? 1.0 : part;
        }

        private double nearer(double opening, double target) {
            double by = target - opening;
            if (by > rate) {
                by = rate;
            } else if (by < 0.0 - rate) {
                by = 0.0 - rate;
            }
            return opening + by;
        }

        private void letOut() {
            double level = levelOf(volume);
            double root = rootOf(level);
            out = 0.0;
            for (int g = 0; g < GATES; g++) {
                out = out + openings[g] * 400.0 * root;
            }
            double over = level - 30.0;
            spill = over > 0.0 ? over * over * 150.0 : 0.0;
            lack = 0.0;
            volume = volume + inflow - out - spill;
            double most = unitsAt(TOP);
            if (volume < 0.0) {
                lack = 0.0 - volume;
                volume = 0.0;
            } else if (volume > most) {
                spill = spill + (volume - most);
                volume = most;
            }
        }
    }

    /** RULES of the day and RIGHTS to the litre. */
    private static final class Law {
        static final int MOST = 12, LAST_RANK = 99;

        int rules;
        private final int[] ruleRank = new int[MOST];
        private final int[] firstDay = new int[MOST];
        private final int[] lastDay = new int[MOST];
        private final double[] low = new double[MOST];
        private final double[] high = new double[MOST];
        private final double[] outflow = new double[MOST];
        int rights;
        private final int[] rightRank = new int[MOST];
        private final int[] share = new int[MOST];
        private final long[] most = new long[MOST];
        final long[] have = new long[MOST];

        void addRule(int rank, int from, int to, long lowBits, long highBits, long outBits) {
            ruleRank[rules] = rank;
            firstDay[rules] = from;
            lastDay[rules] = to;
            low[rules] = realOf(lowBits);
            high[rules] = realOf(highBits);
            outflow[rules] = realOf(outBits);
            rules++;
        }

        int holding(int day, double level) {
            int first = NONE;
            for (int i = 0; i < rules; i++) {
                boolean holds = between(day, firstDay[i], lastDay[i]) && level >= low[i] && level < high[i];
                if (holds && (first == NONE || ruleRank[i] < ruleRank[first])) {
                    first = i;
                }
            }
            return first;
        }

        double wishAt(int day, double level) {
            int first = holding(day, level);
            return first == NONE ? 0.0 : outflow[first];
        }

        void addRight(int rank, int shareOf, long mostOf) {
            rightRank[rights] = rank;
            share[rights] = shareOf;
            most[rights] = mostOf;
            have[rights] = 0;
            rights++;
        }

        /** What is left of n litres, when they are PARTED. */
        long leftOf(long n) {
            long left = n;
            for (int rank = 0; rank <= LAST_RANK; rank++) {
                long wanted = wantedAt(rank);
                if (wanted > left) {
                    left = giveShares(rank, left);
                }
                left = giveInOrder(rank, left);
            }
            return left;
        }

        private long wantedAt(int rank) {
            long wanted = 0;
            for (int i = 0; i < rights; i++) {
                if (rightRank[i] == rank) {
                    wanted += most[i] - have[i];
                }
            }
            return wanted;
        }

        private long giveShares(int rank, long n) {
            long shares = 0;
            for (int i = 0; i < rights; i++) {
                if (rightRank[i] == rank) {
                    shares += share[i];
                }
            }
            if (shares == 0) {
                return n;
            }
            long left = n;
            for (int i = 0; i < rights; i++) {
                if (rightRank[i] == rank) {
                    left -= give(i, n * share[i] / shares);
                }
            }
            return left;
        }

        private long giveInOrder(int rank, long n) {
            long left = n;
            for (int i = 0; i < rights; i++) {
                if (rightRank[i] == rank) {
                    left -= give(i, left);
                }
            }
            return left;
        }

        private long give(int i, long offered) {
            long given = Math.min(offered, most[i] - have[i]);
            have[i] += given;
            return given;
        }

        long takeBack() {
            long had = 0;
            for (int i = 0; i < rights; i++) {
                had += have[i];
                have[i] = 0;
            }
            return had;
        }
    }

    private static final class Floods {
        static final int RUNS = 6, MOST_HOURS = 12, RELEASES = 8;

        /** Below 0.0: none. */
        final double[][] inflows = new double[RUNS][MOST_HOURS];
        final double[] releases = new double[RELEASES];
        int hours = MOST_HOURS;

        Floods() {
            for (int run = 0; run < RUNS; run++) {
                for (int hour = 0; hour < MOST_HOURS; hour++) {
                    inflows[run][hour] = NONE;
                }
            }
            for (int k = 0; k < RELEASES; k++) {
                releases[k] = NONE;
            }
        }

        static double realOrNone(long bits) {
            return isNumber(bits) ? realOf(bits) : NONE;
        }

        boolean isThere(int k) {
            return between(k, 0, RELEASES - 1) && releases[k] >= 0.0;
        }

        boolean lacks(int run) {
            for (int hour = 0; hour < hours; hour++) {
                if (inflows[run][hour] < 0.0) {
                    return true;
                }
            }
            return false;
        }

        private static double routedOn(double volume, double inflow, double release) {
            double to = volume + inflow - release;
            return to < 0.0 ? 0.0 : to;
        }

        double volumeBehind(int run, double release, int hour, double volume) {
            double v = volume;
            for (int h = 0; h <= hour; h++) {
                v = routedOn(v, inflows[run][h], release);
            }
            return v;
        }

        private double lossOf(int run, double release, double volume) {
            double v = volume;
            double highest = 0.0;
            for (int h = 0; h < hours; h++) {
                v = routedOn(v, inflows[run][h], release);
                double over = v - Lake.unitsAt(Lake.SILL);
                if (over > highest) {
                    highest = over;
                }
            }
            return highest * highest + release * 10.0;
        }

        double greatestLoss(int k, double volume) {
            double greatest = 0.0;
            double release = releases[k];
            for (int run = 0; run < RUNS; run++) {
                if (!lacks(run)) {
                    double loss = lossOf(run, release, volume);
                    if (loss > greatest) {
                        greatest = loss;
                    }
                }
            }
            return greatest;
        }

        int leastRegretted(double volume) {
            int best = NONE;
            double least = 0.0;
            for (int k = 0; k < RELEASES; k++) {
                if (isThere(k)) {
                    double loss = greatestLoss(k, volume);
                    if (best == NONE || loss < least || loss == least && releases[k] < releases[best]) {
                        best = k;
                        least = loss;
                    }
                }
            }
            return best;
        }

        int peakHour(int run) {
            if (lacks(run)) {
                return NONE;
            }
            int best = 0;
            for (int hour = 1; hour < hours; hour++) {
                if (inflows[run][hour] > inflows[run][best]) {
                    best = hour;
                }
            }
            return best;
        }

        int wholeRuns() {
            int n = 0;
            for (int run = 0; run < RUNS; run++) {
                if (!lacks(run)) {
                    n++;
                }
            }
            return n;
        }

        int runsAbove(double mark) {
            int n = 0;
            for (int run = 0; run < RUNS; run++) {
                int hour = peakHour(run);
                if (hour != NONE && inflows[run][hour] > mark) {
                    n++;
                }
            }
            return n;
        }
    }

    private static final class Book {
        static final int PAGES = 32, PAGE_BYTES = 32, MOST_BYTES = 24, MOST_BOOKINGS = 60000;
        static final int LENGTH_AT = 2, BYTES_AT = 3;
        private static final int SUM_AT = 28, SUM_FACTOR = 0xC2B2AE3D;
        /** What readThrough() finds; the first three are numbered as lost() asks for them. */
        private static final int NOT_WHOLE = 0, UNLIKE = 1, DOUBLED = 2, BARE = 3, OF_THE_BOOK = 4;

        private final byte[] bytes = new byte[PAGES * PAGE_BYTES];
        private final int[] found = new int[PAGES];
        private boolean isRead;
        int bookings;

        static boolean reaches(int page, int i) {
            return between(page, 0, PAGES - 1) && between(i, 0, PAGE_BYTES - 1);
        }

        int byteAt(int page, int i) {
            int at = page * PAGE_BYTES + i;
            return at >= 0 && at < bytes.length ? bytes[at] & 0xFF : 0;
        }

        void setByte(int page, int i, int b) {
            int at = page * PAGE_BYTES + i;
            if (at >= 0 && at < bytes.length) {
                bytes[at] = (byte) b;
                isRead = false;
            }
        }

        int numberOn(int page) {
            return byteAt(page, 0) << 8 | byteAt(page, 1);
        }

        void enter(Row row) {
            int page = bookings % PAGES;
            bookings++;
            setByte(page, 0, bookings >> 8);
            setByte(page, 1, bookings);
            int n = row.cells.length;
            setByte(page, LENGTH_AT, n);
            for (int j = 0; j < SUM_AT - BYTES_AT; j++) {
                setByte(page, BYTES_AT + j, j < n ? (int) Row.asWhole(row.kind, row.cells[j]) : 0);
            }
            int sum = sumOf(page);
            for (int j = 0; j < 4; j++) {
                setByte(page, SUM_AT + j, sum >> (24 - 8 * j));
            }
        }

        private int sumOf(int page) {
            int sum = 0;
            for (int i = 0; i < SUM_AT; i++) {
                int mixed = sum ^ byteAt(page, i);
                sum = (mixed << 7 | mixed >>> 25) * SUM_FACTOR;
            }
            return sum;
        }

        private int sumWritten(int page) {
            int sum = 0;
            for (int j = 0; j < 4; j++) {
                sum = sum << 8 | byteAt(page, SUM_AT + j);
            }
            return sum;
        }

        private boolean isWhole(int page) {
            return numberOn(page) != 0 && byteAt(page, LENGTH_AT) <= MOST_BYTES && sumOf(page) == sumWritten(page);
        }

        /** Ahead of each question: pages may have been altered since the last one. */
        private void readThrough() {
            if (isRead) {
                return;
            }
            for (int page = 0; page < PAGES; page++) {
                found[page] = findingOf(page);
            }
            isRead = true;
        }

        /** Pages ahead of this one must have been looked at. */
        private int findingOf(int page) {
            if (!isWhole(page)) {
                return isAllZero(page) ? BARE : NOT_WHOLE;
            }
            for (int first = 0; first < page; first++) {
                if (found[first] == OF_THE_BOOK && numberOn(first) == numberOn(page)) {
                    return hasSameBytes(first, page) ? DOUBLED : UNLIKE;
                }
            }
            return OF_THE_BOOK;
        }

        private boolean isAllZero(int page) {
            for (int i = 0; i < PAGE_BYTES; i++) {
                if (byteAt(page, i) != 0) {
                    return false;
                }
            }
            return true;
        }

        private boolean hasSameBytes(int page, int other) {
            for (int i = 0; i < PAGE_BYTES; i++) {
                if (byteAt(page, i) != byteAt(other, i)) {
                    return false;
                }
            }
            return true;
        }

        int countRows() {
            readThrough();
            return countFound(OF_THE_BOOK);
        }

        /** The page of ROW i OF THE BOOK, or NONE. */
        int pageOfRow(int i) {
            readThrough();
            int page = NONE;
            if (between(i, 0, PAGES - 1)) {
                page = nextByNumber(0);
                for (int k = 0; k < i && page != NONE; k++) {
                    page = nextByNumber(numberOn(page));
                }
            }
            return page;
        }

        private int nextByNumber(int number) {
            int next = NONE;
            for (int page = 0; page < PAGES; page++) {
                if (found[page] == OF_THE_BOOK && numberOn(page) > number && (next == NONE || numberOn(page) < numberOn(next))) {
                    next = page;
                }
            }
            return next;
        }

        int countLost(int what) {
            readThrough();
            return countFound(what);
        }

        private int countFound(int what) {
            int n = 0;
            for (int page = 0; page < PAGES; page++) {
                if (found[page] == what) {
                    n++;
                }
            }
            return n;
        }

        int lostPage(int what, int k) {
            readThrough();
            int n = 0;
            for (int page = 0; page < PAGES; page++) {
                if (found[page] == what) {
                    if (n == k) {
                        return page;
                    }
                    n++;
                }
            }
            return NONE;
        }
    }
}
