/** The document's promise 12, sentence by sentence, the bits and the numbers written out. */
public final class WholeSentencesTest {
    private final Check check;
    private final int size;

    private WholeSentencesTest(Check check, int size) {
        this.check = check;
        this.size = size;
    }

    /** Register 1 has all bits set before, so that all 64 must be written. */
    private void due(long bits, int n, boolean rounded, long number, int answer) {
        String which = "whole(" + size + ", " + Long.toHexString(bits) + ", " + n + ", " + rounded + ")";
        ExactFloats x = Bits.with(bits, number == -1 ? 0 : -1L);
        x.under(true);
        check.due(which, x.whole(size, 0, n, rounded, 1), answer);
        check.due(which + ": get(1)", x.get(1), number);
        check.due(which + ": a stays", x.get(0), bits);
        check.due(which + ", into itself", x.whole(size, 0, n, rounded, 0), answer);
        check.due(which + ": get(0)", x.get(0), number);
    }

    /** The same of the float with the other sign, where no number is cut. */
    private void dueBoth(long bits, int n, boolean rounded, long number) {
        due(bits, n, rounded, number, number == 0 ? 4 : 0);
        due(bits | 0x8000L, n, rounded, -number, number == 0 ? 4 : 8);
    }

    private void allBits() {
        check.sentence("to (all 64 bits) is a as a whole number");
        for (int n = 1; n <= 4; n *= 2) {
            due(0xC080L, n, false, 0xFFFF_FFFF_FFFF_FFFFL, 8);
            due(0xC140L, n, false, 0xFFFF_FFFF_FFFF_FFFDL, 8);
            due(0x43FEL, n, false, 0x0000_0000_0000_007FL, 0);
            due(0xC400L, n, false, 0xFFFF_FFFF_FFFF_FF80L, 8);
        }
    }

    private void towardsZero() {
        check.sentence("towards 0");
        for (int n = 1; n <= 4; n *= 2) {
            // 1/2, 1 less a bit, 3/2, 2 less a bit, 5/2, the smallest.
            dueBoth(0x4000L, n, false, 0);
            dueBoth(0xFFFF_407FL, n, false, 0);
            dueBoth(0x40C0L, n, false, 1);
            dueBoth(0xFFFF_40FFL, n, false, 1);
            dueBoth(0x4120L, n, false, 2);
            dueBoth(0x0080L, n, false, 0);
            // 127 and 3/4.
            dueBoth(0x8000_43FFL, n, false, 127);
        }
    }

    private void rounded() {
        check.sentence("or rounded (halves away from 0)");
        for (int n = 1; n <= 4; n *= 2) {
            // 1/2, 1/2 less a bit, 1/2 and a bit, 1 less a bit.
            dueBoth(0x4000L, n, true, 1);
            dueBoth(0xFFFF_3FFFL, n, true, 0);
            dueBoth(0x0001_4000L, n, true, 1);
            dueBoth(0xFFFF_407FL, n, true, 1);
            // 3/2, 3/2 less a bit, 5/2, 5/2 less a bit, 7/2.
            dueBoth(0x40C0L, n, true, 2);
            dueBoth(0xFFFF_40BFL, n, true, 1);
            dueBoth(0x4120L, n, true, 3);
            dueBoth(0xFFFF_411FL, n, true, 2);
            dueBoth(0x4160L, n, true, 4);
            // 1/4, the smallest, 126 and 1/2.
            dueBoth(0x3F80L, n, true, 0);
            dueBoth(0x0080L, n, true, 0);
            dueBoth(0x43FDL, n, true, 127);
        }
    }

    private void bytes() {
        check.sentence("of n bytes (1, 2, 4): its low bits as a number with sign; 2 if that is another one");
        // 127, 128, -128, -129, 255, 256, -256, 257, -255.
        due(0x43FEL, 1, false, 127, 0);
        due(0x4400L, 1, false, -128, 10);
        due(0xC400L, 1, false, -128, 8);
        due(0xC401L, 1, false, 127, 2);
        due(0x447FL, 1, false, -1, 10);
        due(0x4480L, 1, false, 0, 6);
        due(0xC480L, 1, false, 0, 6);
        due(0x8000_4480L, 1, false, 1, 2);
        due(0xC47FL, 1, false, 1, 2);
        // The same numbers, but for 4 bytes.
        due(0x4400L, 4, false, 128, 0);
        due(0xC401L, 4, false, -129, 8);
        due(0x4480L, 2, false, 256, 0);
        due(0xC480L, 2, false, -256, 8);
        // 32767, 32768, -32768, -32769, 65535, 65536.
        due(0xFE00_47FFL, 2, false, 32767, 0);
        due(0x4800L, 2, false, -32768, 10);
        due(0xC800L, 2, false, -32768, 8);
        due(0x0100_C800L, 2, false, 32767, 2);
        due(0xFF00_487FL, 2, false, -1, 10);
        due(0x4880L, 2, false, 0, 6);
        due(0x4880L, 4, false, 65536, 0);
        due(0x4880L, 1, true, 0, 6);
        // 2 ^ 31 less 128, 2 ^ 31, -(2 ^ 31), 2 ^ 32, 2 ^ 32 less 256, -(2 ^ 31) - 256.
        due(0xFFFF_4FFFL, 4, false, 2147483520L, 0);
        due(0x5000L, 4, false, -2147483648L, 10);
        due(0xD000L, 4, false, -2147483648L, 8);
        due(0x5080L, 4, false, 0, 6);
        due(0xFFFF_507FL, 4, false, -256, 10);
        due(0x0001_D000L, 4, false, 2147483392L, 2);
    }

    /** Rounded first, then cut. */
    private void roundedToTheLimit() {
        check.sentence("2 if that is another one");
        // 127 and 1/2, -128 and 1/2, 32767 and 1/2, -32768 and 1/2, 255 and 1/2.
        due(0x43FFL, 1, true, -128, 10);
        due(0x43FFL, 1, false, 127, 0);
        due(0x8000_C400L, 1, true, 127, 2);
        due(0x8000_C400L, 1, false, -128, 8);
        due(0xC3FFL, 1, true, -128, 8);
        due(0xFF00_47FFL, 2, true, -32768, 10);
        due(0xFF00_47FFL, 2, false, 32767, 0);
        due(0x0080_C800L, 2, true, 32767, 2);
        due(0x0080_C800L, 2, false, -32768, 8);
        due(0x8000_447FL, 1, true, 0, 6);
        due(0x8000_447FL, 1, false, -1, 10);
    }

    /** Numbers far above 4 bytes, up to the largest. */
    private void large() {
        check.sentence("its low bits as a number with sign; 2 if that is another one");
        for (int e = 185; e <= 255; e++) {
            for (int n = 1; n <= 4; n *= 2) {
                due(e * 128L, n, false, 0, 6);
                due(0x8000L | e * 128L, n, true, 0, 6);
            }
        }
        // 2 ^ 32 + 2 ^ 9, 2 ^ 54 + 2 ^ 31, 2 ^ 55 + 2 ^ 32.
        due(0x0001_5080L, 4, false, 512, 2);
        due(0x0001_D080L, 4, false, -512, 10);
        due(0x0001_5B80L, 4, false, -2147483648L, 10);
        due(0x0001_5C00L, 4, false, 0, 6);
    }

    private void ofSizeEight() {
        check.sentence("to is a as a whole number, towards 0, or rounded (halves away from 0)");
        // 2 ^ 31 less a bit, and -(2 ^ 31) - 1/2 and a bit less than that.
        due(0xFFFF_FFFF_FFFF_4FFFL, 4, false, 2147483647L, 0);
        due(0xFFFF_FFFF_FFFF_4FFFL, 4, true, -2147483648L, 10);
        due(0xFFFF_FFFF_FFFF_CFFFL, 4, true, -2147483648L, 8);
        due(0x0080_0000_D000L, 4, false, -2147483648L, 8);
        due(0x0080_0000_D000L, 4, true, 2147483647L, 2);
        due(0xFFFF_007F_0000_D000L, 4, true, -2147483648L, 8);
        // 1 and 1/2 less the last bit there is; 1/2 less it.
        due(0xFFFF_FFFF_FFFF_40BFL, 4, true, 1, 0);
        due(0xFFFF_FFFF_FFFF_3FFFL, 4, true, 0, 4);
        due(0xFFFF_FFFF_FFFF_407FL, 4, true, 1, 0);
        due(0xFFFF_FFFF_FFFF_407FL, 4, false, 0, 4);
        // 2 ^ 54 + 1/2, 2 ^ 55 + 1, 2 ^ 56 + 2, -(2 ^ 56) - 2, 2 ^ 86 + 2 ^ 31, 2 ^ 87 + 2 ^ 32.
        due(0x0001_0000_0000_5B80L, 4, false, 0, 6);
        due(0x0001_0000_0000_5B80L, 4, true, 1, 2);
        due(0x0001_0000_0000_5C00L, 4, true, 1, 2);
        due(0x0001_0000_0000_5C80L, 4, true, 2, 2);
        due(0x0001_0000_0000_DC80L, 1, true, -2, 10);
        due(0x0001_0000_0000_6B80L, 4, true, -2147483648L, 10);
        due(0x0001_0000_0000_6B80L, 2, true, 0, 6);
        due(0x0001_0000_0000_6C00L, 4, true, 0, 6);
        due(0xFFFF_FFFF_FFFF_7FFFL, 4, true, 0, 6);
        due(0xFFFF_FFFF_FFFF_FFFFL, 1, true, 0, 6);
    }

    private void zeroAndReserved() {
        check.sentence("e 0: it is 0, or with the sign 1 RESERVED");
        due(0, 1, true, 0, 4);
        due(0xFFFF_FFFF_FFFF_007FL, 4, true, 0, 4);
        ExactFloats x = Bits.with(0x8000L, 0xFFFF_FFFF_FFFF_807FL);
        for (int n = 1; n <= 4; n *= 2) {
            int bytes = n;
            check.refuses("RESERVED", x, -1, () -> x.whole(size, 0, bytes, true, 5));
            check.refuses("RESERVED with a fraction", x, -1, () -> x.whole(size, 1, bytes, false, 5));
        }
    }

    private void anotherN() {
        check.sentence("-5 for another n, too");
        int[] others = {0, 3, 5, 6, 7, 8, 16, -1, -2, -4, 257, 260, Integer.MAX_VALUE, Integer.MIN_VALUE};
        for (int n : others) {
            ExactFloats x = Bits.with(0x4080L, 0x8000L);
            check.refuses("n " + n, x, -5, () -> x.whole(size, 0, n, false, 5));
            check.refuses("n " + n + ", rounded", x, -5, () -> x.whole(size, 0, n, true, 0));
            check.refuses("n " + n + ", RESERVED", x, -5, () -> x.whole(size, 1, n, true, 5));
        }
    }

    public static void main(String[] args) {
        Check check = new Check();
        for (int size = 4; size <= 8; size += 4) {
            WholeSentencesTest test = new WholeSentencesTest(check, size);
            test.allBits();
            test.towardsZero();
            test.rounded();
            test.bytes();
            test.roundedToTheLimit();
            test.large();
            test.zeroAndReserved();
            test.anotherN();
        }
        new WholeSentencesTest(check, 8).ofSizeEight();
        check.end();
    }
}
