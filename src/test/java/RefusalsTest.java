/** The refusals that the calls share: -5 before -1 before all others, and nothing changes. */
public final class RefusalsTest {
    private static final int[] NO_SIZE = {0, 1, 2, 3, 5, 6, 7, 9, 12, 16, 32, -4, -8, Integer.MAX_VALUE,
        Integer.MIN_VALUE};
    private static final int[] NO_REGISTER = {-1, 8, 9, -8, 1 << 16, Integer.MAX_VALUE, Integer.MIN_VALUE};

    private final Check check;
    private final long reserved;
    private final boolean lost;

    private RefusalsTest(Check check, long reserved, boolean lost) {
        this.check = check;
        this.reserved = reserved;
        this.lost = lost;
    }

    /** A new one for each few calls, since an object is used for at most 512. */
    private ExactFloats made() {
        ExactFloats x = Bits.with(Bits.ONE, reserved, 0, 3, 4, 5, 6, 7);
        x.number(4, lost ? 0x7FFFFFFF : 1 << 30, 7);
        check.due("lost()", x.lost(), lost);
        return x;
    }

    /** All calls that read two registers and write one. */
    private void reading(int size, int a, int b, int to, int want) {
        ExactFloats x = made();
        String with = "(" + size + ", " + a + ", " + b + ", " + to + ")";
        check.refuses("sum" + with, x, want, () -> x.sum(size, a, b, to));
        check.refuses("less" + with, x, want, () -> x.less(size, a, b, to));
        check.refuses("product" + with, x, want, () -> x.product(size, a, b, to));
        check.refuses("quotient" + with, x, want, () -> x.quotient(size, a, b, to));
    }

    /** All calls that read one register. */
    private void readingOne(int size, int a, int to, int want) {
        ExactFloats x = made();
        String with = "(" + size + ", " + a + ", " + to + ")";
        check.refuses("negative" + with, x, want, () -> x.negative(size, a, to));
        check.refuses("change" + with, x, want, () -> x.change(size, a, to));
        check.refuses("whole" + with, x, want, () -> x.whole(size, a, 2, false, to));
        check.refuses("whole rounded" + with, x, want, () -> x.whole(size, a, 4, true, to));
    }

    /** r0 is 1, r1 is RESERVED, r2 is 0. */
    private void noSuch() {
        for (int size : NO_SIZE) {
            for (int r = 0; r < 3; r++) {
                int a = r;
                reading(size, a, 0, 3, -5);
                readingOne(size, a, 3, -5);
                ExactFloats x = made();
                check.refuses("compare, size " + size, x, -5, () -> x.compare(size, a, 0));
            }
            ExactFloats x = made();
            check.refuses("number, size " + size, x, -5, () -> x.number(size, 3, 3));
        }
        for (int size = 4; size <= 8; size += 4) {
            int s = size;
            for (int none : NO_REGISTER) {
                reading(s, none, 0, 3, -5);
                reading(s, 0, none, 3, -5);
                reading(s, 0, 0, none, -5);
                reading(s, 1, none, 3, -5);
                reading(s, 2, 1, none, -5);
                readingOne(s, none, 3, -5);
                readingOne(s, 0, none, -5);
                readingOne(s, 1, none, -5);
                ExactFloats x = made();
                check.refuses("compare(" + none + ", 0)", x, -5, () -> x.compare(s, none, 0));
                check.refuses("compare(1, " + none + ")", x, -5, () -> x.compare(s, 1, none));
                check.refuses("number to " + none, x, -5, () -> x.number(s, 3, none));
            }
        }
    }

    private void readsReserved() {
        for (int size = 4; size <= 8; size += 4) {
            for (int to = 0; to < 8; to++) {
                reading(size, 1, 0, to, -1);
                reading(size, 0, 1, to, -1);
                reading(size, 1, 1, to, -1);
                reading(size, 2, 1, to, -1);
                reading(size, 1, 2, to, -1);
                readingOne(size, 1, to, -1);
            }
        }
    }

    public static void main(String[] args) {
        Check check = new Check();
        long[] fractions = {0, 0x7F, 0xFFFF_FFFF_FFFF_007FL, 0x1_0000L};
        for (long fraction : fractions) {
            for (int lost = 0; lost < 2; lost++) {
                RefusalsTest test = new RefusalsTest(check, Bits.RESERVED | fraction, lost == 1);
                test.noSuch();
                test.readsReserved();
            }
        }
        ExactFloats x = Bits.with(Bits.RESERVED, Bits.ONE, Bits.ONE);
        check.writes("a RESERVED one is only written", x, x.sum(4, 1, 2, 0), 0, 0, Bits.of(130, 0), false);
        check.end();
    }
}
