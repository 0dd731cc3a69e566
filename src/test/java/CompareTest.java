/** Promise 10: 8 if a is less than b, 4 if they are alike; nothing is written. */
public final class CompareTest {
    /** In order, each less than the next; the last two differ in size 8 alone. */
    private static final long[] RISING = {
        Bits.minus(Bits.LARGEST_4), Bits.minus(Bits.of4(129, 1)), Bits.minus(Bits.ONE), Bits.minus(Bits.SMALLEST),
        0, Bits.SMALLEST, Bits.of4(1, 1), Bits.of4(1, 1L << 16), Bits.of4(1, 1L << 22), Bits.of(128, 0),
        Bits.ONE, Bits.of4(129, 1), Bits.of(130, 0), Bits.LARGEST_4, Bits.LARGEST_8,
    };

    public static void main(String[] args) {
        Check check = new Check();
        for (int size = 4; size <= 8; size += 4) {
            int last = size == 4 ? RISING.length - 1 : RISING.length;
            for (int i = 0; i < last; i++) {
                for (int j = 0; j < last; j++) {
                    ExactFloats x = Bits.with(RISING[i], RISING[j]);
                    check.due("compare " + i + ", " + j, x.compare(size, 0, 1), i < j ? 8 : i == j ? 4 : 0);
                }
            }
            int s = size;
            ExactFloats x = Bits.with(0x7F, 0, Bits.RESERVED, Bits.ONE, 0x8001_0000_0000_0010L);
            check.due("e 0 and 0", x.compare(s, 0, 1), 4);
            check.due("0 and e 0", x.compare(s, 1, 4), 4);
            check.due("one and itself", x.compare(s, 3, 3), 4);
            x.number(4, 0x7FFFFFFF, 7);
            check.refuses("compare with RESERVED", x, -1, () -> x.compare(s, 3, 2));
            check.refuses("RESERVED compared", x, -1, () -> x.compare(s, 2, 3));
            check.refuses("RESERVED with itself", x, -1, () -> x.compare(s, 2, 2));
            check.refuses("what changes nothing", x, 8, () -> x.compare(s, 1, 3));
        }
        ExactFloats x = Bits.with(Bits.of(129, 1), Bits.ONE, Bits.LARGEST_4, Bits.LARGEST_8);
        check.due("size 8, last bit", x.compare(8, 0, 1), 0);
        check.due("size 8, last bit, turned", x.compare(8, 1, 0), 8);
        check.due("size 4, the low 32 count", x.compare(4, 0, 1), 4);
        check.due("size 4, the low 32 of the largest", x.compare(4, 2, 3), 4);
        check.end();
    }
}
