/** Promise 6: to is b - a. */
public final class LessTest {
    public static void main(String[] args) {
        Check check = new Check();
        for (int size = 4; size <= 8; size += 4) {
            int s = size;
            ExactFloats x = new ExactFloats();
            x.number(s, 5, 0);
            x.number(s, 12, 1);
            check.writes("12 - 5", x, x.less(s, 0, 1, 2), 0, 2, Bits.of(131, 3L << 53), false);
            check.writes("5 - 12", x, x.less(s, 1, 0, 2), 8, 2, Bits.minus(Bits.of(131, 3L << 53)), false);
            check.writes("5 - -7", x, x.less(s, 2, 0, 3), 0, 3, x.get(1), false);
            check.writes("12 - 12", x, x.less(s, 1, 3, 1), 4, 1, 0, false);
            check.writes("0 - 5", x, x.less(s, 0, 1, 2), 8, 2, Bits.minus(Bits.of(131, 1L << 53)), false);
            check.writes("5 - 0", x, x.less(s, 1, 0, 2), 0, 2, Bits.of(131, 1L << 53), false);
            x.set(4, Bits.ONE);
            x.set(5, Bits.SMALLEST);
            check.writes("smallest - 1", x, x.less(s, 4, 5, 6), 8, 6, Bits.minus(Bits.ONE), true);
            long largest = s == 4 ? Bits.LARGEST_4 : Bits.LARGEST_8;
            x.set(4, largest);
            x.set(5, Bits.minus(largest));
            check.refuses("largest - -largest", x, -2, () -> x.less(s, 5, 4, 6));
            check.refuses("-largest - largest", x, -2, () -> x.less(s, 4, 5, 6));
            check.writes("largest - largest", x, x.less(s, 4, 4, 6), 4, 6, 0, false);
        }
        ExactFloats x = Bits.with(Bits.of(129, 1), Bits.ONE);
        check.writes("size 8 keeps the last bit", x, x.less(8, 1, 0, 2), 0, 2, Bits.of(74, 0), false);
        check.writes("size 4 does not read it", x, x.less(4, 1, 0, 2), 4, 2, 0, false);
        check.end();
    }
}
