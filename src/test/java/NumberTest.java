/** Promise 13: to is v. */
public final class NumberTest {
    public static void main(String[] args) {
        Check check = new Check();
        for (int size = 4; size <= 8; size += 4) {
            ExactFloats x = Bits.with(-1L);
            check.writes("0", x, x.number(size, 0, 0), 4, 0, 0, false);
            x.set(0, -1L);
            check.writes("1", x, x.number(size, 1, 0), 0, 0, 0x4080, false);
            check.writes("-1", x, x.number(size, -1, 0), 8, 0, 0xC080, false);
            check.writes("10", x, x.number(size, 10, 0), 0, 0, 0x4220, false);
            check.writes("lowest", x, x.number(size, Integer.MIN_VALUE, 0), 8, 0, Bits.minus(Bits.of(160, 0)), false);
            check.writes("2 ^ 24", x, x.number(size, 1 << 24, 0), 0, 0, Bits.of(153, 0), false);
            check.writes("24 ones", x, x.number(size, 0xFFFFFF, 7), 0, 7, Bits.of4(152, Bits.ALL_ONES_4), false);
            for (int i = 0; i < 31; i++) {
                check.writes("2 ^ " + i, x, x.number(size, 1 << i, 0), 0, 0, Bits.of(129 + i, 0), false);
            }
        }
        ExactFloats x = new ExactFloats();
        check.writes("size 8", x, x.number(8, 0x7FFFFFFF, 0), 0, 0, Bits.of(159, 0x3FFFFFFFL << 25), false);
        check.writes("size 4", x, x.number(4, 0x7FFFFFFF, 0), 0, 0, Bits.of(160, 0), true);
        check.writes("size 4, 2 ^ 24 + 1: a half", x, x.number(4, (1 << 24) + 1, 0), 0, 0, Bits.of4(153, 1), true);
        check.writes("and below 0", x, x.number(4, -(1 << 24) - 1, 0), 8, 0, Bits.minus(Bits.of4(153, 1)), true);
        check.writes("2 ^ 25 + 1: less", x, x.number(4, (1 << 25) + 1, 0), 0, 0, Bits.of(154, 0), true);
        check.writes("2 ^ 25 + 3: more", x, x.number(4, (1 << 25) + 3, 0), 0, 0, Bits.of4(154, 1), true);
        x.set(3, Bits.RESERVED);
        check.writes("over a RESERVED one", x, x.number(4, 1, 3), 0, 3, Bits.ONE, false);
        check.end();
    }
}
