/** Promise 9: the other sign; of 0 it is 0. */
public final class NegativeTest {
    public static void main(String[] args) {
        Check check = new Check();
        for (int size = 4; size <= 8; size += 4) {
            int s = size;
            long largest = s == 4 ? Bits.LARGEST_4 : Bits.LARGEST_8;
            ExactFloats x = Bits.with(largest, Bits.minus(Bits.SMALLEST), 0, 0x5555_5555_5555_0055L, Bits.RESERVED,
                    Bits.RESERVED | 0x7F);
            x.set(7, -1);
            check.writes("largest", x, x.negative(s, 0, 7), 8, 7, Bits.minus(largest), false);
            check.writes("and back", x, x.negative(s, 7, 7), 0, 7, largest, false);
            check.writes("smallest below 0", x, x.negative(s, 1, 7), 0, 7, Bits.SMALLEST, false);
            check.writes("0", x, x.negative(s, 2, 7), 4, 7, 0, false);
            check.writes("e 0", x, x.negative(s, 3, 3), 4, 3, 0, false);
            x.quotient(s, 0, 1, 6);
            check.refuses("RESERVED", x, -1, () -> x.negative(s, 4, 7));
            check.refuses("RESERVED with a fraction", x, -1, () -> x.negative(s, 5, 5));
        }
        ExactFloats x = new ExactFloats();
        x.number(4, 0x7FFFFFFF, 1);
        check.due("lost() before", x.lost(), true);
        x.set(0, Bits.ONE | 0xABCD_EF01_2345_0000L);
        check.writes("size 8", x, x.negative(8, 0, 1), 8, 1, Bits.minus(x.get(0)), false);
        check.writes("size 4: the others are 0", x, x.negative(4, 0, 0), 8, 0,
                Bits.minus(Bits.ONE | 0x2345_0000L), false);
        check.end();
    }
}
