/** Promises 76 to 83. */
public final class BookTest {
    private static final int NULL = -2000000011, INDEX = -2000000012;
    private static final int NONE = ReservoirWall.NONE, UNKNOWN = ReservoirWall.UNKNOWN, OUTSIDE = ReservoirWall.OUTSIDE;

    private static final Due due = new Due("BookTest");

    private static int sum(int[] page) {
        long s = 0;
        for (int i = 0; i < 28; i++) {
            long y = s ^ page[i];
            y = (y << 7 | y >> 25) & 0xFFFFFFFFL;
            s = y * 0xC2B2AE3DL & 0xFFFFFFFFL;
        }
        return (int) s;
    }

    private static void page(ReservoirWall x, int page, int number, int... bytes) {
        int[] want = new int[32];
        want[0] = number >> 8;
        want[1] = number & 255;
        want[2] = bytes.length;
        System.arraycopy(bytes, 0, want, 3, bytes.length);
        int s = sum(want);
        for (int j = 0; j < 4; j++) {
            want[28 + j] = s >>> (24 - 8 * j) & 255;
        }
        for (int i = 0; i < 32; i++) {
            due.is("pageByte(" + page + ", " + i + ")", x.pageByte(page, i), want[i]);
        }
    }

    private static ReservoirWall withRow() {
        ReservoirWall x = new ReservoirWall();
        x.row(7, 3);
        x.put(0, 0, 0x1234);
        x.put(0, 1, -1);
        x.put(0, 2, 7);
        return x;
    }

    private static void book() {
        ReservoirWall x = withRow();
        due.is("book", x.book(0), 1);
        page(x, 0, 1, 0x34, 255, 7);
        x.row(3, 2);
        x.putReal(1, 0, Double.doubleToLongBits(-2.5));
        due.is("book reals as wholes", x.book(1), 2);
        page(x, 1, 2, 254, 0);
        x.row(1, 24);
        x.put(2, 23, 9);
        due.is("24 cells", x.book(2), 3);
        due.is("the last byte", x.pageByte(2, 26), 9);
        x.row(1, 25);
        due.is("25 cells", x.book(3), OUTSIDE);
        x.row(6, 0);
        due.is("no cells", x.book(4), 4);
        page(x, 3, 4);
        due.is("book unknown", x.book(5), UNKNOWN);
        due.is("book null", x.book(NONE), NULL);
        due.is("bookings", x.about(10), 4);
    }

    private static void round() {
        ReservoirWall x = withRow();
        for (int i = 1; i <= 300; i++) {
            due.is("book", x.book(0), i);
        }
        page(x, 299 % 32, 300, 0x34, 255, 7);
        due.is("rows", x.open(), 32);
        due.is("the least number", x.opened(0, 0), 269);
        due.is("its page", x.opened(0, 2), 268 % 32);
        due.is("the greatest number", x.opened(31, 0), 300);
        due.is("no more", x.opened(32, 0), UNKNOWN);
        x = withRow();
        for (int i = 0; i < 32; i++) {
            x.book(0);
        }
        x.row(0, 1);
        x.book(1);
        page(x, 0, 33, 0);
    }

    private static void bytes() {
        ReservoirWall x = withRow();
        x.book(0);
        due.is("page 32", x.pageByte(32, 0), INDEX);
        due.is("page -1", x.pageByte(-1, 0), INDEX);
        due.is("byte 32", x.pageByte(0, 32), INDEX);
        due.is("byte -1", x.pageByte(0, -1), INDEX);
        due.is("raised", x.raised(0), 2);
        due.is("damage", x.damage(0, 4, 0x81), 1);
        due.is("damaged", x.pageByte(0, 4), 255 ^ 0x81);
        due.is("damage a bare page", x.damage(31, 31, 255), 1);
        due.is("damaged", x.pageByte(31, 31), 255);
        due.is("mask 0", x.damage(0, 0, 0), OUTSIDE);
        due.is("mask 256 ahead of index", x.damage(99, 0, 256), OUTSIDE);
        due.is("mask -1", x.damage(0, 0, -1), OUTSIDE);
        due.is("damage page", x.damage(32, 0, 1), INDEX);
        due.is("damage byte", x.damage(0, 32, 1), INDEX);
        due.is("tear unknown", x.tear(32, 99), UNKNOWN);
        due.is("tear unknown", x.tear(-1, 0), UNKNOWN);
        due.is("tear outside", x.tear(0, 33), OUTSIDE);
        due.is("tear outside", x.tear(0, -1), OUTSIDE);
        due.is("tear nothing", x.tear(0, 32), 1);
        due.is("still there", x.pageByte(0, 5), 7);
        due.is("tear", x.tear(0, 5), 1);
        due.is("gone", x.pageByte(0, 5), 0);
        due.is("gone", x.pageByte(0, 31), 0);
        due.is("ahead stays", x.pageByte(0, 3), 0x34);
        due.is("twin unknown", x.twin(32, 0), UNKNOWN);
        due.is("twin unknown", x.twin(0, -1), UNKNOWN);
        due.is("twin", x.twin(0, 31), 1);
        due.is("as the other", x.pageByte(31, 3), 0x34);
        due.is("as the other", x.pageByte(31, 31), 0);
        due.is("the other stays", x.pageByte(0, 3), 0x34);
        due.is("twin back", x.twin(31, 30), 1);
        due.is("as the other", x.pageByte(30, 3), 0x34);
        due.is("tear the last page", x.tear(31, 0), 1);
        due.is("gone", x.pageByte(31, 3), 0);
        due.is("the other stays", x.pageByte(30, 3), 0x34);
    }

    private static void lost(ReservoirWall x, String when, int[]... want) {
        for (int what = 0; what < 3; what++) {
            due.is(when + ": lost(" + what + ", -1)", x.lost(what, -1), want[what].length);
            for (int k = 0; k < want[what].length; k++) {
                due.is(when + ": lost(" + what + ", " + k + ")", x.lost(what, k), want[what][k]);
            }
            due.is(when + ": no more", x.lost(what, want[what].length), NONE);
        }
    }

    private static final int[] NO_PAGE = {};

    private static void openedAndLost() {
        ReservoirWall x = withRow();
        for (int i = 0; i < 4; i++) {
            x.book(0);
        }
        due.is("open", x.open(), 4);
        lost(x, "whole", NO_PAGE, NO_PAGE, NO_PAGE);
        due.is("number", x.opened(2, 0), 3);
        due.is("n", x.opened(2, 1), 3);
        due.is("page", x.opened(2, 2), 2);
        due.is("byte 0", x.opened(2, 10), 0x34);
        due.is("byte 1", x.opened(2, 11), 255);
        due.is("byte 2", x.opened(2, 12), 7);
        due.is("byte 3", x.opened(2, 13), OUTSIDE);
        due.is("what 3", x.opened(2, 3), OUTSIDE);
        due.is("what 9", x.opened(2, 9), OUTSIDE);
        due.is("what -1", x.opened(2, -1), OUTSIDE);
        due.is("unknown ahead of outside", x.opened(4, -1), UNKNOWN);
        due.is("unknown", x.opened(-1, 0), UNKNOWN);

        x.damage(1, 20, 1);
        due.is("a damaged page is no row", x.open(), 3);
        due.is("the next one moves up", x.opened(1, 0), 3);
        lost(x, "damaged", new int[] {1}, NO_PAGE, NO_PAGE);
        x.damage(1, 20, 1);
        due.is("mended", x.open(), 4);
        x.tear(2, 1);
        lost(x, "torn, all 0", NO_PAGE, NO_PAGE, NO_PAGE);
        due.is("a bare page is no row", x.open(), 3);
        x.twin(3, 2);
        x.twin(3, 30);
        lost(x, "doubled", NO_PAGE, NO_PAGE, new int[] {3, 30});
        due.is("the first page alone", x.opened(2, 2), 2);
        due.is("no more", x.open(), 3);
        due.is("k below -1", x.lost(2, -2), NONE);
        due.is("lost outside", x.lost(3, 0), OUTSIDE);
        due.is("lost outside", x.lost(-1, -1), OUTSIDE);
    }

    /** Pages of one number with unlike bytes: page 0 is kept as it was, and another booking is given its number. */
    private static void unlike() {
        ReservoirWall x = withRow();
        x.book(0);
        x.twin(0, 9);
        int[] bytes = new int[32];
        for (int i = 0; i < 32; i++) {
            bytes[i] = x.pageByte(9, i);
        }
        rewrite(x, 9, bytes, 3, 0x35);
        lost(x, "unlike", NO_PAGE, new int[] {9}, NO_PAGE);
        due.is("one row", x.open(), 1);
        due.is("the first page", x.opened(0, 10), 0x34);
        x.twin(9, 10);
        x.twin(0, 11);
        lost(x, "against the first page", NO_PAGE, new int[] {9, 10}, new int[] {11});
        x.damage(0, 0, 1);
        due.is("another first page", x.opened(0, 2), 9);
        lost(x, "against another first page", new int[] {0}, new int[] {11}, new int[] {10});

        // A byte behind the n bytes may be other than 0, as long as the sum is right.
        rewrite(x, 9, bytes, 27, 5);
        due.is("whole", x.opened(0, 2), 9);
        // n of 25, number of 0: not whole, though the sum is right.
        rewrite(x, 9, bytes, 2, 25);
        lost(x, "n of 25", new int[] {0, 9}, new int[] {11}, NO_PAGE);
        rewrite(x, 9, bytes, 2, 24);
        due.is("n of 24", x.opened(0, 1), 24);
        due.is("byte 23", x.opened(0, 33), 0);
        due.is("byte 24", x.opened(0, 34), OUTSIDE);
        rewrite(x, 9, bytes, 1, 0);
        due.is("number 0", x.opened(0, 2), 10);
        rewrite(x, 9, bytes, 0, 0xFF);
        due.is("numbers the highest byte first", x.opened(1, 0), 0xFF00);
    }

    /** Sets one byte of a page, and the sum rightly. */
    private static void rewrite(ReservoirWall x, int page, int[] bytes, int i, int b) {
        int[] to = bytes.clone();
        to[i] = b;
        int s = sum(to);
        for (int j = 0; j < 4; j++) {
            to[28 + j] = s >>> (24 - 8 * j) & 255;
        }
        for (int j = 0; j < 32; j++) {
            if (bytes[j] != to[j]) {
                x.damage(page, j, bytes[j] ^ to[j]);
                bytes[j] = to[j];
            }
        }
    }

    public static void main(String[] args) {
        book();
        round();
        bytes();
        openedAndLost();
        unlike();
        due.end();
    }
}
