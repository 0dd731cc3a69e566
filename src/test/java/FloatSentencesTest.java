/** The document's 'Terms', FLOAT: a test for each sentence, the bits written out. */
public final class FloatSentencesTest {
    /** The fraction's bits, from the highest on. */
    private static final int[] AT = {
        6, 5, 4, 3, 2, 1, 0,
        31, 30, 29, 28, 27, 26, 25, 24, 23, 22, 21, 20, 19, 18, 17, 16,
        47, 46, 45, 44, 43, 42, 41, 40, 39, 38, 37, 36, 35, 34, 33, 32,
        63, 62, 61, 60, 59, 58, 57, 56, 55, 54, 53, 52, 51, 50, 49, 48,
    };
    private static final long ALL_OF_FRACTION = 0xFFFF_FFFF_FFFF_007FL;

    private final Check check;
    private final int size;

    private FloatSentencesTest(Check check, int size) {
        this.check = check;
        this.size = size;
    }

    private void sign() {
        check.sentence("bits 15 sign");
        ExactFloats x = Bits.with(0x4080L, 0xC080L);
        check.due("whole of 1", x.whole(size, 0, 4, false, 7), 0);
        check.due("get", x.get(7), 1);
        check.due("whole of -1", x.whole(size, 1, 4, false, 7), 8);
        check.due("get", x.get(7), -1);
        for (int bit = 0; bit < 64; bit++) {
            x = Bits.with(0x4080L ^ 1L << bit);
            check.due("1 with bit " + bit + " turned, compared with 0", x.compare(size, 0, 1), bit == 15 ? 8 : 0);
        }
    }

    private void exponent() {
        check.sentence("7 .. 14 exponent e");
        for (int e = 1; e <= 254; e++) {
            ExactFloats x = Bits.with(e * 128L);
            check.writes("twice e " + e, x, x.sum(size, 0, 0, 1), 0, 1, e * 128L + 128, false);
        }
        ExactFloats x = Bits.with(0x4100L, 0x7F80L);
        check.writes("half of e 255", x, x.quotient(size, 0, 1, 2), 0, 2, 0x7F00L, false);
    }

    private void power() {
        check.sentence("2 ^ (e - 128) * (1/2 + the fraction)");
        for (int i = 0; i <= 30; i++) {
            ExactFloats x = Bits.with((129 + i) * 128L);
            check.due("whole of e " + (129 + i), x.whole(size, 0, 4, false, 7), 0);
            check.due("get", x.get(7), 1L << i);
        }
        ExactFloats x = Bits.with(0x4000L, 0x3F80L);
        check.writes("1/2 + 1/2", x, x.sum(size, 0, 0, 2), 0, 2, 0x4080L, false);
        check.writes("1/4 + 1/4", x, x.sum(size, 1, 1, 2), 0, 2, 0x4000L, false);
        check.sentence("1/2 + the fraction as the bits behind 1/2: 1/4, 1/8, ..");
        // 13 is 16 * (1/2 + 1/4 + 1/16).
        x.set(0, 0x4250L);
        check.due("whole of 13", x.whole(size, 0, 1, false, 7), 0);
        check.due("get", x.get(7), 13);
    }

    /** 1 and the k-th bit is 1 + 2 ^ -k: what it is above 1 tells which bit that is. */
    private void fractionBits() {
        check.sentence("The fraction's bits, from the highest on: 6 .. 0, 31 .. 16, 47 .. 32, 63 .. 48 (23 or 55)");
        int bits = size == 4 ? 23 : 55;
        for (int k = 1; k <= 55; k++) {
            long above = 0x4080L | 1L << AT[k - 1];
            long power = (129 - k) * 128L;
            ExactFloats x = Bits.with(0x4080L, above, power);
            if (k <= bits) {
                check.writes("read, bit " + k, x, x.less(size, 0, 1, 3), 0, 3, power, false);
                check.writes("written, bit " + k, x, x.sum(size, 0, 2, 3), 0, 3, above, false);
            } else {
                check.writes("not read, bit " + k, x, x.less(size, 0, 1, 3), 4, 3, 0, false);
            }
        }
        // All of them and the last place of 1 are 2.
        ExactFloats x = Bits.with(0xFFFF_FFFF_FFFF_40FFL, size == 4 ? 0x3500L : 0x2500L);
        check.writes("all of the fraction", x, x.sum(size, 0, 1, 2), 0, 2, 0x4100L, false);
    }

    private void isZero(long bits) {
        String what = Long.toHexString(bits);
        ExactFloats x = Bits.with(bits, 0, 0x4080L);
        check.due(what + " compared with 0", x.compare(size, 0, 1), 4);
        check.due("0 compared with " + what, x.compare(size, 1, 0), 4);
        check.writes(what + " + 1", x, x.sum(size, 0, 2, 3), 0, 3, 0x4080L, false);
        check.writes("1 + " + what, x, x.sum(size, 2, 0, 3), 0, 3, 0x4080L, false);
        check.writes(what + " - 1", x, x.less(size, 2, 0, 3), 8, 3, 0xC080L, false);
        check.writes("1 - " + what, x, x.less(size, 0, 2, 3), 0, 3, 0x4080L, false);
        check.writes(what + " * 1", x, x.product(size, 0, 2, 3), 4, 3, 0, false);
        check.writes(what + " by 1", x, x.quotient(size, 2, 0, 3), 4, 3, 0, false);
        check.due("1 by " + what, x.quotient(size, 0, 2, 3), -4);
        check.writes("negative " + what, x, x.negative(size, 0, 3), 4, 3, 0, false);
        check.writes("change " + what, x, x.change(size, 0, 3), 4, 3, 0, false);
        check.due("whole " + what, x.whole(size, 0, 4, true, 3), 4);
    }

    private void exponentZero() {
        check.sentence("e 0: it is 0");
        isZero(0);
        isZero(ALL_OF_FRACTION);
        for (int at : AT) {
            isZero(1L << at);
        }
    }

    private void isReserved(long bits) {
        String what = Long.toHexString(bits);
        ExactFloats x = Bits.with(bits, 0x4080L);
        check.refuses("compare " + what, x, -1, () -> x.compare(size, 0, 1));
        check.refuses("compare with " + what, x, -1, () -> x.compare(size, 1, 0));
        check.refuses("sum " + what, x, -1, () -> x.sum(size, 0, 1, 3));
        check.refuses("sum with " + what, x, -1, () -> x.sum(size, 1, 0, 3));
        check.refuses("less " + what, x, -1, () -> x.less(size, 0, 1, 3));
        check.refuses("less than " + what, x, -1, () -> x.less(size, 1, 0, 3));
        check.refuses("product " + what, x, -1, () -> x.product(size, 0, 1, 3));
        check.refuses("product with " + what, x, -1, () -> x.product(size, 1, 0, 3));
        check.refuses("by " + what, x, -1, () -> x.quotient(size, 0, 1, 3));
        check.refuses("quotient of " + what, x, -1, () -> x.quotient(size, 1, 0, 3));
        check.refuses("negative " + what, x, -1, () -> x.negative(size, 0, 3));
        check.refuses("change " + what, x, -1, () -> x.change(size, 0, 3));
        check.refuses("whole " + what, x, -1, () -> x.whole(size, 0, 4, false, 3));
    }

    private void exponentZeroWithSign() {
        check.sentence("e 0: .. or with the sign 1 RESERVED");
        isReserved(0x8000L);
        isReserved(0x8000L | ALL_OF_FRACTION);
        for (int at : AT) {
            isReserved(0x8000L | 1L << at);
        }
    }

    /** The least that is neither 0 nor RESERVED. */
    private void otherwise() {
        check.sentence("otherwise it is, with its sign, 2 ^ (e - 128) * ..");
        for (int bit = 7; bit <= 14; bit++) {
            long power = 1L << bit;
            ExactFloats x = Bits.with(power, 0x8000L | power);
            check.due("0 compared with e bit " + bit, x.compare(size, 7, 0), 8);
            check.due("e bit " + bit + " below 0, compared with 0", x.compare(size, 1, 7), 8);
            check.writes("its other sign", x, x.negative(size, 0, 2), 8, 2, 0x8000L | power, false);
            check.writes("and back", x, x.negative(size, 1, 2), 0, 2, power, false);
        }
    }

    public static void main(String[] args) {
        Check check = new Check();
        for (int size = 4; size <= 8; size += 4) {
            FloatSentencesTest test = new FloatSentencesTest(check, size);
            test.sign();
            test.exponent();
            test.power();
            test.fractionBits();
            test.exponentZero();
            test.exponentZeroWithSign();
            test.otherwise();
        }
        check.end();
    }
}
