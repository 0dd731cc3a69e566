/** Promise 4: UNDERFLOW is asked for from then on, or not; where it is not, the result is 0 and lost. */
public final class UnderTest {
    private static final long MINUS_SMALLEST = Bits.minus(Bits.SMALLEST);

    private static void asked(Check check, ExactFloats x, int size) {
        x.under(true);
        x.number(size, 5, 7);
        check.refuses("product", x, -3, () -> x.product(size, 0, 0, 6));
        check.refuses("product below 0", x, -3, () -> x.product(size, 0, 1, 6));
        check.refuses("quotient", x, -3, () -> x.quotient(size, 2, 0, 6));
        check.refuses("less", x, -3, () -> x.less(size, 0, 3, 6));
        check.refuses("sum", x, -3, () -> x.sum(size, 1, 3, 6));
        check.refuses("less below 0", x, -3, () -> x.less(size, 3, 0, 0));
        check.writes("a true 0 is none", x, x.less(size, 0, 0, 5), 4, 5, 0, false);
        check.writes("nor is one by 0", x, x.product(size, 0, 4, 5), 4, 5, 0, false);
    }

    private static void notAsked(Check check, ExactFloats x, int size) {
        x.under(false);
        x.set(6, -1);
        check.writes("product", x, x.product(size, 0, 0, 6), 4, 6, 0, true);
        x.set(6, -1);
        check.writes("product below 0", x, x.product(size, 0, 1, 6), 4, 6, 0, true);
        check.writes("quotient", x, x.quotient(size, 2, 0, 6), 4, 6, 0, true);
        check.writes("less", x, x.less(size, 0, 3, 6), 4, 6, 0, true);
        check.writes("a true 0", x, x.less(size, 0, 0, 6), 4, 6, 0, false);
        check.writes("less below 0", x, x.less(size, 3, 0, 6), 4, 6, 0, true);
    }

    /** The exponent is looked at behind the rounding: what is rounded up to the smallest is no UNDERFLOW. */
    private static void roundedUp(Check check, int size) {
        long ones = size == 4 ? Bits.of4(128, Bits.ALL_ONES_4) : Bits.of(128, Bits.ALL_ONES_8);
        long half = Bits.of(128, 0);
        long above = size == 4 ? Bits.of4(1, 1) : Bits.of(1, 1);
        ExactFloats x = Bits.with(ones, above, Bits.SMALLEST, half);
        x.under(true);
        // (1 - u) * (1 + 2 u) of the smallest is above it; (1 - u) * (1 of the smallest) is below.
        check.writes("above the smallest", x, x.product(size, 0, 1, 4), 0, 4, Bits.SMALLEST, true);
        check.refuses("below the smallest", x, -3, () -> x.product(size, 0, 2, 4));
        check.refuses("half the smallest", x, -3, () -> x.product(size, 3, 2, 4));
        // 2 - 2 u is, halved, 1 - u: exact with an exponent of 0.
        long last = size == 4 ? Bits.of4(1, Bits.ALL_ONES_4) : Bits.of(1, Bits.ALL_ONES_8);
        x.set(1, last);
        check.refuses("exact, exponent 0", x, -3, () -> x.product(size, 3, 1, 4));
        // Half of it times (1 + 2 u) is 1 + u - 2 u u: rounded up to 1.
        x.set(3, size == 4 ? Bits.of4(128, 1) : Bits.of(128, 1));
        check.writes("rounded up to the smallest", x, x.product(size, 3, 1, 4), 0, 4,
                Bits.SMALLEST, true);
        x.set(3, Bits.minus(x.get(3)));
        check.writes("and below 0", x, x.product(size, 3, 1, 4), 8, 4, Bits.minus(Bits.SMALLEST), true);
    }

    public static void main(String[] args) {
        Check check = new Check();
        for (int size = 4; size <= 8; size += 4) {
            ExactFloats x = Bits.with(Bits.SMALLEST, MINUS_SMALLEST, Bits.of(130, 0), Bits.of(1, 1L << 54));
            asked(check, x, size);
            notAsked(check, x, size);
            asked(check, x, size);
            roundedUp(check, size);
        }
        check.end();
    }
}
