/** Promise 12: a as a whole number of n bytes. */
public final class WholeTest {
    private final Check check;

    private WholeTest(Check check) {
        this.check = check;
    }

    private void due(int size, long bits, int n, boolean rounded, long number, int flags) {
        String call = "whole of " + Long.toHexString(bits) + ", size " + size + ", n " + n + ", " + rounded;
        ExactFloats x = Bits.with(bits, 0x7777_7777_7777_7777L);
        check.due(call, x.whole(size, 0, n, rounded, 1), flags);
        check.due(call + ": get(1)", x.get(1), number);
        check.due(call + ": get(0)", x.get(0), bits);
        check.due(call + ": lost()", x.lost(), false);
    }

    /** The float that is number / 2 ^ down, number up to 24 bits. */
    private static long over(int number, int down) {
        ExactFloats x = Bits.with(Bits.of(129 - down, 0));
        x.number(8, number, 1);
        x.product(8, 0, 1, 2);
        return x.get(2);
    }

    private void halves(int size, int n) {
        due(size, over(1, 1), n, false, 0, 4);
        due(size, over(1, 1), n, true, 1, 0);
        due(size, over(-1, 1), n, false, 0, 4);
        due(size, over(-1, 1), n, true, -1, 8);
        due(size, over(1, 2), n, true, 0, 4);
        due(size, over(-3, 2), n, false, 0, 4);
        due(size, over(-3, 2), n, true, -1, 8);
        due(size, over(5, 1), n, false, 2, 0);
        due(size, over(5, 1), n, true, 3, 0);
        due(size, over(-7, 1), n, false, -3, 8);
        due(size, over(-7, 1), n, true, -4, 8);
        due(size, over(9, 2), n, true, 2, 0);
        due(size, over(11, 2), n, true, 3, 0);
        due(size, Bits.of4(127, Bits.ALL_ONES_4), n, true, 0, 4);
        due(size, Bits.SMALLEST, n, true, 0, 4);
        due(size, Bits.minus(Bits.SMALLEST), n, false, 0, 4);
        due(size, 0, n, false, 0, 4);
        due(size, 0x0001_0001_0001_0001L, n, true, 0, 4);
    }

    private void limits(int size) {
        due(size, over(127, 0), 1, false, 127, 0);
        due(size, over(128, 0), 1, false, -128, 10);
        due(size, over(255, 1), 1, false, 127, 0);
        due(size, over(255, 1), 1, true, -128, 10);
        due(size, over(-128, 0), 1, false, -128, 8);
        due(size, over(-257, 1), 1, false, -128, 8);
        due(size, over(-257, 1), 1, true, 127, 2);
        due(size, over(-129, 0), 1, false, 127, 2);
        due(size, over(256, 0), 1, false, 0, 6);
        due(size, over(-256, 0), 1, true, 0, 6);
        due(size, over(256, 0), 2, false, 256, 0);
        due(size, over(32767, 0), 2, false, 32767, 0);
        due(size, over(32768, 0), 2, false, -32768, 10);
        due(size, over(-32768, 0), 2, false, -32768, 8);
        due(size, over(-32769, 0), 2, false, 32767, 2);
        due(size, over(65535, 1), 2, true, -32768, 10);
        due(size, over(0x123456, 0), 2, true, 0x3456, 2);
        due(size, over(0x123456, 0), 4, true, 0x123456, 0);
        due(size, Bits.of(160, 0), 4, false, -0x80000000L, 10);
        due(size, Bits.minus(Bits.of(160, 0)), 4, false, -0x80000000L, 8);
        due(size, Bits.of(161, 0), 4, false, 0, 6);
        due(size, Bits.minus(Bits.of4(161, 1)), 4, true, -512, 10);
    }

    /** Up to 2 ^ 127: the low bits of numbers that no long holds. */
    private void large(int size) {
        for (int e = 185; e <= 255; e++) {
            due(size, Bits.of4(e, Bits.ALL_ONES_4), 4, false, 0, 6);
            due(size, Bits.minus(Bits.of4(e, Bits.ALL_ONES_4)), 1, true, 0, 6);
        }
    }

    private void sizeEight() {
        due(8, Bits.of(184, 5), 4, false, 5, 2);
        due(8, Bits.of(184, 5), 1, true, 5, 2);
        due(8, Bits.of(185, 5), 4, true, 10, 2);
        due(8, Bits.minus(Bits.of(191, 1)), 1, false, -128, 10);
        due(8, Bits.minus(Bits.of(191, 1)), 2, false, -128, 10);
        due(8, Bits.of(192, 3), 2, false, 768, 2);
        due(8, Bits.of(192, 3), 1, false, 0, 6);
        due(8, Bits.of(215, 1), 4, false, -0x80000000L, 10);
        due(8, Bits.of(216, 1), 4, false, 0, 6);
        due(8, Bits.of(248, 1), 4, false, 0, 6);
        due(8, Bits.LARGEST_8, 4, true, 0, 6);
        due(8, Bits.of(183, 1), 4, false, 0, 6);
        due(8, Bits.of(183, 1), 4, true, 1, 2);
        due(8, Bits.of(128, Bits.ALL_ONES_8), 4, false, 0, 4);
        due(8, Bits.of(128, Bits.ALL_ONES_8), 4, true, 1, 0);
        due(8, Bits.of(127, Bits.ALL_ONES_8), 4, true, 0, 4);
        due(8, Bits.of(159, Bits.ALL_ONES_8), 4, false, 0x7FFFFFFF, 0);
        due(8, Bits.of(159, Bits.ALL_ONES_8), 4, true, -0x80000000L, 10);
        due(8, Bits.minus(Bits.of(160, 1L << 23)), 4, false, -0x80000000L, 8);
        due(8, Bits.minus(Bits.of(160, 1L << 23)), 4, true, 0x7FFFFFFF, 2);
        due(4, Bits.of(129, 1L << 31), 4, true, 1, 0);
    }

    private void refusals() {
        int[] others = {0, 3, 5, 8, -1, -4, 256, Integer.MIN_VALUE, Integer.MAX_VALUE};
        ExactFloats x = Bits.with(Bits.RESERVED, Bits.ONE);
        x.number(4, 0x7FFFFFFF, 7);
        for (int n : others) {
            check.refuses("n " + n, x, -5, () -> x.whole(4, 1, n, false, 2));
            check.refuses("n " + n + ", RESERVED", x, -5, () -> x.whole(8, 0, n, true, 2));
        }
        check.refuses("RESERVED", x, -1, () -> x.whole(4, 0, 4, false, 2));
        check.refuses("RESERVED, size 8", x, -1, () -> x.whole(8, 0, 1, true, 0));
        x.whole(4, 1, 4, false, 1);
        check.due("into itself", x.get(1), 1);
        check.due("lost() is as it was", x.lost(), true);
    }

    public static void main(String[] args) {
        Check check = new Check();
        WholeTest test = new WholeTest(check);
        for (int size = 4; size <= 8; size += 4) {
            for (int n = 1; n <= 4; n *= 2) {
                test.halves(size, n);
            }
            test.limits(size);
            test.large(size);
        }
        test.sizeEight();
        test.refusals();
        check.end();
    }
}
