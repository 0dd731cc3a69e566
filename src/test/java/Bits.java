/** Floats put together bit by bit, by the document's list of where the fraction's bits are. */
final class Bits {
    // First, since the constants below are made with it.
    private static final int[][] FRACTION = {{6, 0}, {31, 16}, {47, 32}, {63, 48}};

    static final long ONE = of(129, 0);
    static final long RESERVED = 0x8000L;
    static final long ALL_ONES_4 = 0x7FFFFFL;
    static final long ALL_ONES_8 = 0x7FFFFFFFFFFFFFL;
    static final long LARGEST_4 = of4(255, ALL_ONES_4);
    static final long LARGEST_8 = of(255, ALL_ONES_8);
    static final long SMALLEST = of(1, 0);

    private Bits() {
    }

    /** Of size 8, above 0; the fraction's 55 bits as a number. */
    static long of(int e, long fraction) {
        long bits = (long) e << 7;
        int left = 55;
        for (int[] part : FRACTION) {
            for (int at = part[0]; at >= part[1]; at--) {
                left--;
                bits |= (fraction >>> left & 1) << at;
            }
        }
        return bits;
    }

    /** Of size 4, above 0; the fraction's 23 bits as a number. */
    static long of4(int e, long fraction) {
        return of(e, fraction << 32);
    }

    static long minus(long bits) {
        return bits | 0x8000L;
    }

    static int exponent(long bits) {
        return (int) (bits >>> 7 & 0xFF);
    }

    static boolean isBelow(long bits) {
        return (bits & 0x8000L) != 0;
    }

    /** The fraction's bits of a float of this size, as a number of 23 or 55 bits. */
    static long fraction(int size, long bits) {
        long fraction = 0;
        for (int i = 0; i < size / 2; i++) {
            for (int at = FRACTION[i][0]; at >= FRACTION[i][1]; at--) {
                fraction = fraction << 1 | (bits >>> at & 1);
            }
        }
        return fraction;
    }

    /** A new object with these in its registers, from 0 on. */
    static ExactFloats with(long... registers) {
        ExactFloats x = new ExactFloats();
        for (int r = 0; r < registers.length; r++) {
            x.set(r, registers[r]);
        }
        return x;
    }
}
