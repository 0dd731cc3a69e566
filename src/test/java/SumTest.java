/** Promise 5: sums, exact and then rounded. */
public final class SumTest {
    private static void ordinary(Check check, int size) {
        ExactFloats x = new ExactFloats();
        x.number(size, 5, 0);
        x.number(size, -12, 1);
        x.set(2, -1);
        // 7 = 2 ^ 3 * (1/2 + 1/4 + 1/8)
        check.writes("5 + -12", x, x.sum(size, 0, 1, 2), 8, 2, Bits.minus(Bits.of(131, 3L << 53)), false);
        check.writes("-12 + 5", x, x.sum(size, 1, 0, 2), 8, 2, Bits.minus(Bits.of(131, 3L << 53)), false);
        check.writes("5 + 5, into itself", x, x.sum(size, 0, 0, 0), 0, 0, Bits.of(132, 1L << 53), false);
        x.number(size, 12, 0);
        check.writes("12 + -12", x, x.sum(size, 0, 1, 1), 4, 1, 0, false);
        check.writes("12 + 0", x, x.sum(size, 0, 1, 2), 0, 2, Bits.of(132, 1L << 54), false);
        check.writes("0 + 0", x, x.sum(size, 1, 1, 2), 4, 2, 0, false);
        // e 0 with a fraction is 0 too, and 0 is written as 0.
        x.set(3, 0xFFFFFFFFFFFF007FL);
        check.writes("e 0 + e 0", x, x.sum(size, 3, 3, 4), 4, 4, 0, false);
        check.writes("e 0 + 12", x, x.sum(size, 3, 0, 4), 0, 4, Bits.of(132, 1L << 54), false);
    }

    /** 1 and parts of the last place of 1, u. */
    private static void rounding(Check check, int size) {
        int places = size == 4 ? 24 : 56;
        long u = 1L << (56 - places);
        ExactFloats x = Bits.with(Bits.ONE);
        x.set(1, Bits.of(129 - places, 0));
        check.writes("1 + u/2: half, away from 0", x, x.sum(size, 0, 1, 2), 0, 2, Bits.of(129, u), true);
        x.set(1, Bits.of(128 - places, Bits.ALL_ONES_8 & -u));
        check.writes("1 + a bit less than u/2", x, x.sum(size, 0, 1, 2), 0, 2, Bits.ONE, true);
        x.set(1, Bits.minus(x.get(1)));
        check.writes("1 - a bit less than u/2", x, x.sum(size, 0, 1, 2), 0, 2, Bits.of(128, Bits.ALL_ONES_8 & -u),
                true);
        x.set(1, Bits.minus(Bits.of(128 - places, 0)));
        check.writes("1 - u/4: half, away from 0", x, x.sum(size, 0, 1, 2), 0, 2, Bits.ONE, true);
        x.set(1, Bits.minus(Bits.of(128 - places, u)));
        check.writes("1 - a bit more than u/4", x, x.sum(size, 0, 1, 2), 0, 2,
                Bits.of(128, Bits.ALL_ONES_8 & -u), true);
        x.set(1, Bits.minus(Bits.SMALLEST));
        check.writes("1 - the smallest", x, x.sum(size, 1, 0, 2), 0, 2, Bits.ONE, true);
        x.set(0, Bits.minus(Bits.ONE));
        check.writes("-1 - the smallest", x, x.sum(size, 1, 0, 2), 8, 2, Bits.minus(Bits.ONE), true);
        x.set(0, Bits.of(129, u));
        x.set(1, Bits.minus(Bits.of(129, 0)));
        check.writes("1 + u - 1", x, x.sum(size, 0, 1, 2), 0, 2, Bits.of(130 - places, 0), false);
        x.set(0, Bits.of(128, Bits.ALL_ONES_8 & -u));
        x.set(1, Bits.of(128 - places, 0));
        check.writes("rounded up to the next power", x, x.sum(size, 0, 1, 2), 0, 2, Bits.ONE, true);
    }

    private static void overflow(Check check, int size) {
        long largest = size == 4 ? Bits.LARGEST_4 : Bits.LARGEST_8;
        int places = size == 4 ? 24 : 56;
        ExactFloats x = Bits.with(largest, Bits.of(255 - places, 0), Bits.of(254 - places, Bits.ALL_ONES_8));
        x.number(size, 1, 7);
        check.refuses("largest + largest", x, -2, () -> x.sum(size, 0, 0, 3));
        check.refuses("rounded up to an overflow", x, -2, () -> x.sum(size, 0, 1, 3));
        check.writes("not rounded up", x, x.sum(size, 0, 2, 3), 0, 3, largest, true);
        x.set(0, Bits.minus(largest));
        check.refuses("the same below 0", x, -2, () -> x.sum(size, 0, 0, 0));
    }

    public static void main(String[] args) {
        Check check = new Check();
        for (int size = 4; size <= 8; size += 4) {
            ordinary(check, size);
            rounding(check, size);
            overflow(check, size);
        }
        ExactFloats x = Bits.with(Bits.ONE | 0x1234567800000000L, Bits.of(130, 1L << 54) | 0x7L << 40);
        check.writes("of size 4 the low 32 count", x, x.sum(4, 0, 1, 0), 0, 0, Bits.of(131, 0), false);
        check.end();
    }
}
