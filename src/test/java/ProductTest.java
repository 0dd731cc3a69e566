/** Promise 7: products, exact and then rounded. */
public final class ProductTest {
    private static void ordinary(Check check, int size) {
        ExactFloats x = new ExactFloats();
        x.number(size, 3, 0);
        x.number(size, -5, 1);
        x.set(2, -1);
        long fifteen = Bits.of(132, 7L << 52);
        check.writes("3 * -5", x, x.product(size, 0, 1, 2), 8, 2, Bits.minus(fifteen), false);
        check.writes("-5 * 3", x, x.product(size, 1, 0, 2), 8, 2, Bits.minus(fifteen), false);
        x.number(size, -3, 0);
        check.writes("-3 * -5, into one of them", x, x.product(size, 0, 1, 1), 0, 1, fifteen, false);
        check.writes("-3 * 0", x, x.product(size, 0, 7, 2), 4, 2, 0, false);
        check.writes("0 * -3", x, x.product(size, 7, 0, 2), 4, 2, 0, false);
        x.set(3, 0x0001000100010001L);
        check.writes("e 0 * e 0", x, x.product(size, 3, 3, 3), 4, 3, 0, false);
    }

    private static void edges(Check check, int size) {
        long largest = size == 4 ? Bits.LARGEST_4 : Bits.LARGEST_8;
        long u = size == 4 ? 1L << 32 : 1;
        ExactFloats x = Bits.with(largest, Bits.of(129, u), Bits.of(130, 0), Bits.ONE);
        x.number(size, 1, 7);
        check.refuses("largest * largest", x, -2, () -> x.product(size, 0, 0, 0));
        check.refuses("largest * 2", x, -2, () -> x.product(size, 0, 2, 5));
        // (1 - v) (1 + 2 v) is above 1 as long as v is below 1/2.
        check.refuses("largest * (1 + u)", x, -2, () -> x.product(size, 0, 1, 5));
        check.writes("largest * 1", x, x.product(size, 0, 3, 5), 0, 5, largest, false);
        check.writes("(1 + u)(1 + u)", x, x.product(size, 1, 1, 5), 0, 5, Bits.of(129, 2 * u), true);
        // (1 + u)(3/2) = 3/2 + 3/2 u: half a place too much, so 3/2 + 2 u.
        x.set(4, Bits.of(129, 1L << 54));
        check.writes("(1 + u) * 3/2", x, x.product(size, 1, 4, 5), 0, 5, Bits.of(129, (1L << 54) + 2 * u), true);
        x.set(4, Bits.minus(x.get(4)));
        check.writes("(1 + u) * -3/2", x, x.product(size, 1, 4, 5), 8, 5,
                Bits.minus(Bits.of(129, (1L << 54) + 2 * u)), true);
        // All ones squared: (1 - u)(1 - u) = 1 - 2 u + u u, rounded to 1 - 2 u.
        x.set(4, Bits.of(128, Bits.ALL_ONES_8 & -u));
        check.writes("(1 - u)(1 - u)", x, x.product(size, 4, 4, 5), 0, 5,
                Bits.of(128, (Bits.ALL_ONES_8 & -u) - u), true);
        x.set(4, Bits.of(65, 0));
        check.writes("2 ^ -64 * 2 ^ -64 is the smallest", x, x.product(size, 4, 4, 5), 0, 5, Bits.SMALLEST, false);
    }

    public static void main(String[] args) {
        Check check = new Check();
        for (int size = 4; size <= 8; size += 4) {
            ordinary(check, size);
            edges(check, size);
        }
        ExactFloats x = new ExactFloats();
        x.number(8, 1234567891, 0);
        x.number(8, 27182819, 1);
        // 33559035528261329 lies between 2 ^ 54 and 2 ^ 55.
        long m = 1234567891L * 27182819L;
        check.writes("55 bits", x, x.product(8, 0, 1, 2), 0, 2, Bits.of(183, (m << 1) - (1L << 55)), false);
        check.end();
    }
}
