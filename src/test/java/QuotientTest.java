/** Promise 8: to is b by a. */
public final class QuotientTest {
    private static void ordinary(Check check, int size) {
        ExactFloats x = new ExactFloats();
        x.number(size, 4, 0);
        x.number(size, -14, 1);
        // 7/2 = 2 ^ 2 * (1/2 + 1/4 + 1/8)
        check.writes("-14 by 4", x, x.quotient(size, 0, 1, 2), 8, 2, Bits.minus(Bits.of(130, 3L << 53)), false);
        x.number(size, -4, 0);
        check.writes("-14 by -4", x, x.quotient(size, 0, 1, 2), 0, 2, Bits.of(130, 3L << 53), false);
        check.writes("-14 by itself", x, x.quotient(size, 1, 1, 1), 0, 1, Bits.ONE, false);
        check.writes("0 by -4", x, x.quotient(size, 0, 7, 3), 4, 3, 0, false);
        x.set(4, 0x7F);
        check.writes("e 0 by -4", x, x.quotient(size, 0, 4, 4), 4, 4, 0, false);
    }

    private static void byZero(Check check, int size) {
        ExactFloats x = Bits.with(Bits.ONE, 0, 0x1111_0000_0000_0011L, Bits.RESERVED);
        x.number(size, 1, 7);
        check.refuses("1 by 0", x, -4, () -> x.quotient(size, 1, 0, 0));
        check.refuses("0 by 0", x, -4, () -> x.quotient(size, 1, 1, 0));
        check.refuses("1 by e 0", x, -4, () -> x.quotient(size, 2, 0, 0));
        check.refuses("RESERVED by 0", x, -1, () -> x.quotient(size, 1, 3, 0));
        check.refuses("0 by RESERVED", x, -1, () -> x.quotient(size, 3, 1, 0));
        check.refuses("1 by 0 to register 8", x, -5, () -> x.quotient(size, 1, 0, 8));
    }

    private static void edges(Check check, int size) {
        long largest = size == 4 ? Bits.LARGEST_4 : Bits.LARGEST_8;
        long u = size == 4 ? 1L << 32 : 1;
        long ones = Bits.ALL_ONES_8 & -u;
        ExactFloats x = Bits.with(largest, Bits.of(128, 0), Bits.SMALLEST, Bits.of(128, ones), Bits.of(129, u));
        x.number(size, 1, 7);
        check.refuses("largest by 1/2", x, -2, () -> x.quotient(size, 1, 0, 5));
        check.refuses("largest by the smallest", x, -2, () -> x.quotient(size, 2, 0, 5));
        check.refuses("largest by 1 - u", x, -2, () -> x.quotient(size, 3, 0, 5));
        x.set(6, Bits.ONE);
        check.writes("1 by 1 - u/2", x, x.quotient(size, 3, 6, 5), 0, 5, Bits.of(129, u), true);
        check.writes("1 by 1 + u", x, x.quotient(size, 4, 6, 5), 0, 5, Bits.of(128, ones - u), true);
        check.writes("the smallest by 1", x, x.quotient(size, 6, 2, 5), 0, 5, Bits.SMALLEST, false);
        check.writes("the smallest by 1/2", x, x.quotient(size, 1, 2, 5), 0, 5, Bits.of(2, 0), false);
        check.writes("the smallest by the largest", x, x.quotient(size, 0, 2, 5), 4, 5, 0, true);
    }

    public static void main(String[] args) {
        Check check = new Check();
        for (int size = 4; size <= 8; size += 4) {
            ordinary(check, size);
            byZero(check, size);
            edges(check, size);
        }
        ExactFloats x = new ExactFloats();
        x.number(8, 1, 0);
        x.number(8, 3, 1);
        // 1/3 = 2 ^ -1 * .101010..: 56 places end in 10, and what is behind them is above a half.
        check.writes("1 by 3", x, x.quotient(8, 1, 0, 2), 0, 2, Bits.of(127, 0x2AAAAAAAAAAAABL), true);
        check.writes("1 by 3, size 4", x, x.quotient(4, 1, 0, 2), 0, 2, Bits.of4(127, 0x2AAAABL), true);
        x.number(8, 5, 0);
        check.writes("5 by 3", x, x.quotient(8, 1, 0, 2), 0, 2, Bits.of(129, 0x55555555555555L), true);
        check.end();
    }
}
