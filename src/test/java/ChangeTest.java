/** Promise 11: to, of the other size, is a of this size. */
public final class ChangeTest {
    private static void toLong(Check check) {
        ExactFloats x = Bits.with(Bits.minus(Bits.of4(200, 0x123456)) | 0xFFFF_FFFF_0000_0000L, Bits.LARGEST_4, 0,
                0x1234_5678_0000_0012L, Bits.RESERVED);
        check.writes("4 to 8, exact, the low 32 count", x, x.change(4, 0, 5), 8, 5,
                Bits.minus(Bits.of4(200, 0x123456)), false);
        check.writes("largest of 4", x, x.change(4, 1, 5), 0, 5, Bits.LARGEST_4, false);
        check.writes("0", x, x.change(4, 2, 5), 4, 5, 0, false);
        check.writes("e 0", x, x.change(4, 3, 3), 4, 3, 0, false);
        x.number(4, 0x7FFFFFFF, 7);
        check.refuses("RESERVED", x, -1, () -> x.change(4, 4, 5));
    }

    private static void toShort(Check check) {
        long half = 1L << 31;
        long last = 1L << 32;
        ExactFloats x = Bits.with(Bits.of(129, half), Bits.of(129, half - 1), Bits.of(129, 5 * last + half),
                Bits.minus(Bits.of(129, Bits.ALL_ONES_8)), Bits.of(129, 7 * last), Bits.RESERVED | 0x40);
        check.writes("a half", x, x.change(8, 0, 7), 0, 7, Bits.of(129, last), true);
        check.writes("a bit less", x, x.change(8, 1, 7), 0, 7, Bits.ONE, true);
        check.writes("a half behind an odd one", x, x.change(8, 2, 7), 0, 7, Bits.of(129, 6 * last), true);
        check.writes("up to the next power", x, x.change(8, 3, 7), 8, 7, Bits.minus(Bits.of(130, 0)), true);
        check.writes("exact, into itself", x, x.change(8, 4, 4), 0, 4, Bits.of(129, 7 * last), false);
        x.set(6, 0x7F);
        check.writes("e 0", x, x.change(8, 6, 7), 4, 7, 0, false);
        check.refuses("RESERVED", x, -1, () -> x.change(8, 5, 7));
        x.set(0, Bits.LARGEST_8);
        check.refuses("OVERFLOW", x, -2, () -> x.change(8, 0, 7));
        x.set(0, Bits.minus(Bits.of(255, (Bits.ALL_ONES_4 << 32) + half)));
        check.refuses("OVERFLOW by a half, below 0", x, -2, () -> x.change(8, 0, 0));
        x.set(0, Bits.of(255, (Bits.ALL_ONES_4 << 32) + half - 1));
        check.writes("none", x, x.change(8, 0, 0), 0, 0, Bits.LARGEST_4, true);
        x.under(true);
        x.set(0, Bits.of(1, 1));
        check.writes("the smallest is no UNDERFLOW", x, x.change(8, 0, 0), 0, 0, Bits.SMALLEST, true);
    }

    public static void main(String[] args) {
        Check check = new Check();
        toLong(check);
        toShort(check);
        check.end();
    }
}
