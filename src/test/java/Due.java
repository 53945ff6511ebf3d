/** Counts the answers that are not as due. */
final class Due {
    private final String title;
    private int asked;
    private int wrong;

    Due(String title) {
        this.title = title;
    }

    void is(String call, long got, long want) {
        asked++;
        if (got != want) {
            wrong++;
            System.out.println(title + ": " + call + " answered " + got + ", due is " + want);
        }
    }

    void real(String call, long gotBits, double want) {
        asked++;
        long wantBits = Double.doubleToLongBits(want);
        if (gotBits != wantBits) {
            wrong++;
            System.out.println(title + ": " + call + " answered bits " + gotBits + " (" + Double.longBitsToDouble(gotBits)
                    + "), due is " + wantBits + " (" + want + ")");
        }
    }

    void end() {
        if (wrong != 0) {
            System.out.println(title + ": " + wrong + " of " + asked + " answers are not as due");
            System.exit(1);
        }
        System.out.println(title + ": " + asked + " answers are as due");
    }
}
