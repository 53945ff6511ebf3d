/** The edges of part 7 and of promises 76 to 83. */
public final class BookEdgesTest {
    private static final int NULL = Edges.NULL, INDEX = Edges.INDEX;
    private static final int NONE = ReservoirWall.NONE, UNKNOWN = ReservoirWall.UNKNOWN, OUTSIDE = ReservoirWall.OUTSIDE, FULL = ReservoirWall.FULL;
    private static final int MIN = Integer.MIN_VALUE, MAX = Integer.MAX_VALUE;
    private static final int ROWS = 11;

    private static final Due due = new Due("BookEdgesTest");
    private static final Edges at = new Edges(due, UsedWall::build);

    /** THE SUM, in longs. */
    private static long sum(int[] page) {
        long s = 0;
        for (int i = 0; i < 28; i++) {
            long b = s ^ page[i];
            long turned = (b << 7 | b >>> 25) & 0xFFFFFFFFL;
            s = turned * 0xC2B2AE3DL & 0xFFFFFFFFL;
        }
        return s;
    }

    private static int[] page(int number, int... bytes) {
        int[] page = new int[32];
        page[0] = number / 256;
        page[1] = number % 256;
        page[2] = bytes.length;
        for (int j = 0; j < bytes.length; j++) {
            page[3 + j] = bytes[j];
        }
        return summed(page);
    }

    private static int[] summed(int[] page) {
        int[] all = page.clone();
        long s = sum(page);
        for (int j = 0; j < 4; j++) {
            all[28 + j] = (int) (s >> 24 - 8 * j & 255);
        }
        return all;
    }

    private static void isPage(String when, ReservoirWall x, int page, int[] want) {
        for (int i = 0; i < 32; i++) {
            due.is(when + ": byte " + i + " of page " + page, x.pageByte(page, i), want[i]);
        }
    }

    private static void book() {
        for (int row : new int[] {-2, MIN, ROWS, MAX}) {
            at.unknown("book: ROW " + row, x -> x.book(row));
        }
        at.fails("book: NONE", NULL, x -> x.book(NONE));
        at.outside("book: 25 cells", x -> x.book(10));
        at.behind(x -> x.row(1, 64)).outside("book: 64 cells", x -> x.book(ROWS));
        ReservoirWall x = at.does("book: 24 cells", 4, y -> y.book(9));
        int[] bytes = new int[24];
        bytes[0] = 65;
        bytes[23] = 99;
        isPage("24 cells", x, 3, page(4, bytes));
        x = at.does("book: no cells", 4, y -> y.book(8));
        isPage("no cells", x, 3, page(4));
        due.is("BOOKINGS", x.about(10), 4);
        x = at.behind(y -> y.row(0, 1)).does("book: one cell", 4, y -> y.book(ROWS));
        isPage("one cell", x, 3, page(4, 0));
        // The lowest 8 bits of each cell as WHOLES, KIND by KIND (5 + KIND, -2.75, 0).
        for (int kind = 0; kind <= 7; kind++) {
            int of = kind;
            x = at.does("book: KIND " + kind, 4, y -> y.book(of));
            isPage("KIND " + kind, x, 3, page(4, kind == 6 ? 1 : 5 + kind, kind == 6 ? 1 : 254, 0));
        }
        long[][] cells = {{255, 255}, {256, 0}, {-1, 255}, {-256, 0}, {0x1FF, 255}, {Long.MIN_VALUE, 0}, {Long.MAX_VALUE, 255}, {128, 128}};
        for (long[] c : cells) {
            x = new ReservoirWall();
            x.row(7, 1);
            x.put(0, 0, c[0]);
            due.is("book", x.book(0), 1);
            isPage("of " + c[0], x, 0, page(1, (int) c[1]));
        }
        x = new ReservoirWall();
        x.row(3, 3);
        x.putReal(0, 0, Double.doubleToLongBits(1.0E300));
        x.putReal(0, 1, 0x7FF8000000000000L);
        x.putReal(0, 2, Double.doubleToLongBits(-1.0E300));
        due.is("book", x.book(0), 1);
        isPage("reals MADE WHOLE as longs", x, 0, page(1, 255, 0, 0));
    }

    private static void round() {
        // The 32nd goes to the last page, the 33rd to the first, over what was there.
        ReservoirWall x = new ReservoirWall();
        x.row(5, 24);
        x.row(5, 1);
        for (int i = 0; i < 24; i++) {
            x.put(0, i, 200 + i);
        }
        for (int i = 1; i <= 31; i++) {
            due.is("book", x.book(0), i);
        }
        isPage("the last page is bare", x, 31, new int[32]);
        due.is("the 32nd", x.book(1), 32);
        isPage("the 32nd", x, 31, page(32, 0));
        due.is("the 33rd", x.book(1), 33);
        isPage("the 33rd", x, 0, page(33, 0));
        due.is("the next page is as it was", x.pageByte(1, 1), 2);
        due.is("ROWS OF THE BOOK", x.open(), 32);
        due.is("the least NUMBER", x.opened(0, 0), 2);
        due.is("its page", x.opened(0, 2), 1);
        due.is("the greatest NUMBER", x.opened(31, 0), 33);
        due.is("its page", x.opened(31, 2), 0);
        due.is("no 33rd ROW", x.opened(32, 0), UNKNOWN);
        // NUMBERS of 255, 256, 257: the highest byte first.
        x = new ReservoirWall();
        x.row(5, 0);
        for (int i = 1; i <= 257; i++) {
            due.is("book", x.book(0), i);
        }
        isPage("255", x, 254 % 32, page(255));
        isPage("256", x, 255 % 32, page(256));
        isPage("257", x, 256 % 32, page(257));
    }

    /** Beyond what an object is promised for, but told: FULL when 60000 were BOOKED. */
    private static void fullBook() {
        ReservoirWall x = new ReservoirWall();
        x.row(5, 0);
        x.row(5, 25);
        int wrong = 0;
        for (int i = 1; i <= 60000; i++) {
            wrong += x.book(0) == i ? 0 : 1;
        }
        due.is("60000 BOOKINGS", wrong, 0);
        isPage("60000", x, 59999 % 32, page(60000));
        x.table(41);
        due.is("the 60001st", x.book(0), FULL);
        due.is("raised(0) stays", x.raised(0), INDEX);
        due.is("BOOKINGS", x.about(10), 60000);
        due.is("UNKNOWN ahead of FULL", x.book(2), UNKNOWN);
        due.is("OUTSIDE ahead of FULL", x.book(1), OUTSIDE);
        isPage("the next page is as it was", x, 60000 % 32, page(59969));
        due.is("NULL ahead of FULL", x.book(NONE), ReservoirWall.FAILED - NULL);
    }

    private static void bytes() {
        for (int page : new int[] {-1, 32, MIN, MAX}) {
            at.fails("pageByte: page " + page, INDEX, x -> x.pageByte(page, 0));
            at.fails("damage: page " + page, INDEX, x -> x.damage(page, 0, 1));
            at.unknown("tear: page " + page, x -> x.tear(page, 0));
            at.unknown("tear: UNKNOWN ahead of OUTSIDE", x -> x.tear(page, 33));
            at.unknown("twin: from " + page, x -> x.twin(page, 0));
            at.unknown("twin: to " + page, x -> x.twin(0, page));
            at.unknown("twin: both " + page, x -> x.twin(page, page));
        }
        for (int i : new int[] {-1, 32, MIN, MAX}) {
            at.fails("pageByte: byte " + i, INDEX, x -> x.pageByte(0, i));
            at.fails("pageByte: byte " + i + " of the last page", INDEX, x -> x.pageByte(31, i));
            at.fails("damage: byte " + i, INDEX, x -> x.damage(0, i, 1));
            at.fails("damage: byte " + i + " of the last page", INDEX, x -> x.damage(31, i, 255));
        }
        for (int mask : new int[] {0, -1, 256, MIN, MAX}) {
            at.outside("damage: mask " + mask, x -> x.damage(0, 0, mask));
            at.outside("damage: OUTSIDE ahead of INDEX", x -> x.damage(32, 0, mask));
            at.outside("damage: OUTSIDE ahead of INDEX", x -> x.damage(0, -1, mask));
        }
        for (int i : new int[] {-1, 33, MIN, MAX}) {
            at.outside("tear: from " + i, x -> x.tear(0, i));
            at.outside("tear: from " + i + " of the last page", x -> x.tear(31, i));
        }
        int[] first = page(1, 5, 254, 0);
        for (int i = 0; i < 32; i++) {
            int of = i;
            at.asks("pageByte: byte " + i, first[i], x -> x.pageByte(0, of));
        }
        at.asks("pageByte: the last byte of the last page", 0, x -> x.pageByte(31, 31));
        for (int mask : new int[] {1, 128, 255}) {
            for (int[] spot : new int[][] {{0, 0}, {0, 31}, {31, 0}, {31, 31}}) {
                ReservoirWall x = at.does("damage: mask " + mask, 1, y -> y.damage(spot[0], spot[1], mask));
                int was = spot[0] == 0 ? first[spot[1]] : 0;
                due.is("it is altered", x.pageByte(spot[0], spot[1]), was ^ mask);
                due.is("not beside it", x.pageByte(spot[0], 15), spot[0] == 0 ? first[15] : 0);
                due.is("damage again", x.damage(spot[0], spot[1], mask), 1);
                due.is("it is as it was", x.pageByte(spot[0], spot[1]), was);
            }
        }
        for (int i : new int[] {0, 1, 4, 31, 32}) {
            ReservoirWall x = at.sets("tear: from " + i, 1, y -> y.tear(0, i));
            int[] torn = first.clone();
            for (int k = i; k < 32; k++) {
                torn[k] = 0;
            }
            isPage("torn from " + i, x, 0, torn);
            due.is("the next page is as it was", x.pageByte(1, 1), 2);
        }
        at.tells("tear: i = 32, none", 1, x -> x.tear(0, 32));
        at.tells("tear: a bare page", 1, x -> x.tear(31, 0));
        at.tells("twin: a page and itself", 1, x -> x.twin(0, 0));
        ReservoirWall x = at.sets("twin: to the last page", 1, y -> y.twin(0, 31));
        isPage("twin", x, 31, first);
        isPage("the first stays", x, 0, first);
        x = at.sets("twin: of a bare page", 1, y -> y.twin(31, 0));
        isPage("bare now", x, 0, new int[32]);
    }

    /** Bytes of the pages beside: what begins with 255 stays, and is not looked at. */
    private static void pagesBeside() {
        ReservoirWall x = new ReservoirWall();
        write(x, 4, page(0xFF07, 1, 2));
        x.damage(5, 0, 255);
        x.damage(3, 31, 254);
        x.damage(9, 0, 7);
        x.damage(7, 31, 8);
        x.twin(4, 8);
        isPage("the twin", x, 8, page(0xFF07, 1, 2));
        due.is("the page behind stays", x.pageByte(9, 0), 7);
        due.is("the page ahead stays", x.pageByte(7, 31), 8);
        counts("DOUBLED, whatever is beside", x, 1, 4, 0, 1);
        x.tear(4, 0);
        isPage("torn", x, 4, new int[32]);
        due.is("the page behind stays", x.pageByte(5, 0), 255);
        due.is("the page ahead stays", x.pageByte(3, 31), 254);
        counts("all 0, whatever is beside", x, 1, 4, 0, 0);
        x.row(5, 24);
        for (int i = 0; i < 4; i++) {
            x.book(0);
        }
        isPage("BOOKED", x, 3, page(4, new int[24]));
        due.is("the page behind stays", x.pageByte(4, 0), 0);
        x.book(0);
        due.is("the page behind stays", x.pageByte(5, 0), 255);
    }

    private static void opened() {
        // ROWS OF THE BOOK: 1 on page 0 (3 bytes), 2 on page 1 (24 bytes); page 2 is damaged, page 30 is page 1 again.
        at.tells("open", 2, x -> x.open());
        for (int i : new int[] {-1, 2, 32, MIN, MAX}) {
            at.unknown("opened: ROW " + i, x -> x.opened(i, 0));
            at.unknown("opened: UNKNOWN ahead of OUTSIDE", x -> x.opened(i, 3));
        }
        for (int what : new int[] {-1, 3, 9, 13, 14, 33, 34, MIN, MAX}) {
            at.outside("opened: what " + what, x -> x.opened(0, what));
        }
        for (int what : new int[] {-1, 3, 9, 34, 35, MIN, MAX}) {
            at.outside("opened: what " + what, x -> x.opened(1, what));
        }
        int[] first = {1, 3, 0};
        int[] second = {2, 24, 1};
        for (int what = 0; what <= 2; what++) {
            int of = what;
            at.tells("opened(0, " + what + ")", first[what], x -> x.opened(0, of));
            at.tells("opened(1, " + what + ")", second[what], x -> x.opened(1, of));
        }
        at.tells("opened: byte 0", 5, x -> x.opened(0, 10));
        at.tells("opened: byte 1", 254, x -> x.opened(0, 11));
        at.tells("opened: the last byte", 0, x -> x.opened(0, 12));
        at.tells("opened: byte 0", 65, x -> x.opened(1, 10));
        at.tells("opened: the 24th byte", 99, x -> x.opened(1, 33));
        ReservoirWall x = at.does("book: no cells", 4, y -> y.book(8));
        due.is("n of 0", x.opened(2, 1), 0);
        due.is("no byte", x.opened(2, 10), OUTSIDE);
        due.is("open: none", new ReservoirWall().open(), 0);
        due.is("opened: none", new ReservoirWall().opened(0, 0), UNKNOWN);
    }

    private static void lostEdges() {
        for (int what : new int[] {-1, 3, MIN, MAX}) {
            at.outside("lost: what " + what, x -> x.lost(what, 0));
            at.outside("lost: what " + what + ", how many", x -> x.lost(what, -1));
        }
        // Page 2 is damaged, page 30 is DOUBLED.
        int[][] want = {{1, 2}, {0, NONE}, {1, 30}};
        for (int what = 0; what <= 2; what++) {
            int of = what;
            at.tells("lost: how many, what " + what, want[what][0], x -> x.lost(of, -1));
            at.tells("lost: the first, what " + what, want[what][1], x -> x.lost(of, 0));
            at.tells("lost: the second, what " + what, NONE, x -> x.lost(of, 1));
            at.tells("lost: k -2, what " + what, NONE, x -> x.lost(of, -2));
            at.tells("lost: k least, what " + what, NONE, x -> x.lost(of, MIN));
            at.tells("lost: k greatest, what " + what, NONE, x -> x.lost(of, MAX));
        }
    }

    /** Writes these bytes to a page. */
    private static void write(ReservoirWall x, int page, int[] bytes) {
        for (int i = 0; i < 32; i++) {
            int mask = x.pageByte(page, i) ^ bytes[i];
            if (mask != 0) {
                x.damage(page, i, mask);
            }
        }
    }

    private static void counts(String when, ReservoirWall x, int open, int notWhole, int unlike, int doubled) {
        due.is(when + ": open", x.open(), open);
        due.is(when + ": not WHOLE", x.lost(0, -1), notWhole);
        due.is(when + ": UNLIKE", x.lost(1, -1), unlike);
        due.is(when + ": DOUBLED", x.lost(2, -1), doubled);
    }

    private static void whole() {
        // n of 23, 24, 25, 255; the SUM is right in all.
        for (int n : new int[] {0, 23, 24, 25, 255}) {
            int[] page = page(1, 1, 2, 3);
            page[2] = n;
            ReservoirWall x = new ReservoirWall();
            write(x, 4, summed(page));
            counts("n of " + n, x, n <= 24 ? 1 : 0, n <= 24 ? 0 : 1, 0, 0);
        }
        // NUMBERS 0, 1, 255, 256, 65535.
        for (int number : new int[] {0, 1, 255, 256, 60001, 65535}) {
            ReservoirWall x = new ReservoirWall();
            write(x, 4, page(number, 9));
            counts("NUMBER " + number, x, number == 0 ? 0 : 1, number == 0 ? 1 : 0, 0, 0);
            due.is("its NUMBER", x.opened(0, 0), number == 0 ? UNKNOWN : number);
        }
        // Any byte of the 32 altered by any one bit: THE SUM is not right.
        int[] page = page(7, 1, 2, 3);
        for (int i = 0; i < 32; i++) {
            for (int mask = 1; mask < 256; mask <<= 1) {
                ReservoirWall x = new ReservoirWall();
                write(x, 31, page);
                counts("written", x, 1, 0, 0, 0);
                x.damage(31, i, mask);
                counts("byte " + i + " altered by " + mask, x, 0, 1, 0, 0);
                x.damage(31, i, mask);
                counts("mended", x, 1, 0, 0, 0);
            }
        }
        // All 0 is not lost; a single byte that is not is.
        for (int i = 0; i < 32; i++) {
            ReservoirWall x = new ReservoirWall();
            counts("all 0", x, 0, 0, 0, 0);
            x.damage(9, i, 1);
            counts("byte " + i + " is not 0", x, 0, 1, 0, 0);
            due.is("the page", x.lost(0, 0), 9);
            x.tear(9, 0);
            counts("all 0 again", x, 0, 0, 0, 0);
        }
        // Bytes behind the n ones may be other than 0, if THE SUM is right.
        int[] odd = page(7, 1, 2, 3);
        odd[27] = 1;
        ReservoirWall x = new ReservoirWall();
        write(x, 0, summed(odd));
        counts("a byte behind", x, 1, 0, 0, 0);
        due.is("but is none of its bytes", x.opened(0, 13), OUTSIDE);
    }

    private static void likeNumbers() {
        int[] one = page(7, 1);
        int[] other = page(7, 2);
        int[] third = page(8, 1);
        ReservoirWall x = new ReservoirWall();
        write(x, 10, one);
        write(x, 5, other);
        counts("the first page alone", x, 1, 0, 1, 0);
        due.is("the first page", x.opened(0, 2), 5);
        due.is("its byte", x.opened(0, 10), 2);
        due.is("the UNLIKE one", x.lost(1, 0), 10);
        write(x, 20, other);
        write(x, 31, one);
        counts("four of one NUMBER", x, 1, 0, 2, 1);
        due.is("DOUBLED", x.lost(2, 0), 20);
        due.is("UNLIKE", x.lost(1, 1), 31);
        write(x, 0, third);
        counts("another NUMBER", x, 2, 0, 2, 1);
        due.is("by NUMBER, not by page", x.opened(0, 2), 5);
        due.is("by NUMBER, not by page", x.opened(1, 2), 0);
        x.tear(5, 0);
        counts("the first page is torn", x, 2, 0, 1, 1);
        due.is("the next one is first", x.opened(0, 2), 10);
        due.is("UNLIKE now", x.lost(1, 0), 20);
        due.is("DOUBLED now", x.lost(2, 0), 31);
        x.damage(10, 4, 1);
        counts("the next one is damaged", x, 2, 1, 1, 0);
        due.is("the third one is first", x.opened(0, 2), 20);
        // Unlike in bytes behind the n ones, too.
        x = new ReservoirWall();
        int[] odd = page(7, 1);
        odd[27] = 1;
        write(x, 1, one);
        write(x, 2, summed(odd));
        counts("any byte is another one", x, 1, 0, 1, 0);
        // 32 pages of one NUMBER.
        x = new ReservoirWall();
        write(x, 0, one);
        for (int page = 1; page < 32; page++) {
            x.twin(0, page);
        }
        counts("32 of one NUMBER", x, 1, 0, 0, 31);
        due.is("the last DOUBLED", x.lost(2, 30), 31);
        due.is("no more", x.lost(2, 31), NONE);
        for (int page = 0; page < 32; page++) {
            x.damage(page, 3, 1);
        }
        counts("32 not WHOLE", x, 0, 32, 0, 0);
        due.is("the first", x.lost(0, 0), 0);
        due.is("the last", x.lost(0, 31), 31);
        due.is("no more", x.lost(0, 32), NONE);
    }

    public static void main(String[] args) {
        book();
        round();
        fullBook();
        bytes();
        pagesBeside();
        opened();
        lostEdges();
        whole();
        likeNumbers();
        due.end();
    }
}
