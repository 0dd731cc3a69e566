/**
 * Floats of two sizes, worked on exactly, then rounded.
 *
 * <p>Inside, a float that is read becomes one long, its VALUE: 0 for 0, otherwise the exponent
 * (8 bits) above the fraction (55 bits), with the sign of the float as the sign of the long. Both
 * sizes have the same form there, since a float of size 4 is one of size 8 whose last 32 fraction
 * bits are 0; values compare as the floats do, and the other sign is the long's.
 *
 * <p>What is worked out is a WIDE number before it is rounded: 63 bits behind the point, the
 * lowest of them 1 if anything that is not 0 was cut off behind it. That bit stays below the bit
 * that decides the rounding, so the rounding and lost() are those of the exact number.
 */
public final class ExactFloats {
    private static final int SHORT_SIZE = 4;
    private static final int LONG_SIZE = 8;
    private static final int REGISTERS = 8;

    private static final int BELOW_ZERO = 8;
    private static final int IS_ZERO = 4;
    private static final int ANOTHER_NUMBER = 2;

    private static final int OK = 0;
    private static final int RESERVED = -1;
    private static final int OVERFLOW = -2;
    private static final int UNDERFLOW = -3;
    private static final int DIVISION_BY_ZERO = -4;
    private static final int NO_SUCH = -5;

    private static final int SIGN_BIT = 0x8000;
    private static final int SIGN_AND_EXPONENT = 0xFF80;
    private static final long LOW_32 = 0xFFFFFFFFL;
    private static final long LOW_16 = 0xFFFFL;

    private static final int BIAS = 128;
    private static final int MOST_EXPONENT = 255;
    private static final int FRACTION_BITS = 55;
    private static final long FIRST_BIT = 1L << FRACTION_BITS;
    private static final long FRACTION = FIRST_BIT - 1;
    private static final int SIGNIFICAND_BITS = 56;

    private static final int WIDE_BITS = 63;
    private static final long WIDE_FIRST_BIT = 1L << (WIDE_BITS - 1);
    private static final int WIDE_SPARE = WIDE_BITS - SIGNIFICAND_BITS;
    private static final int WIDE_SPARE_SHORT = WIDE_BITS - 24;

    private static final int HALF_BITS = 28;
    private static final long LOW_HALF = (1L << HALF_BITS) - 1;

    private final long[] registers;
    private boolean underflowAsked;
    private boolean lastWasInexact;

    public ExactFloats() {
        registers = new long[REGISTERS];
        underflowAsked = false;
        lastWasInexact = false;
    }

    public boolean set(int r, long v) {
        if (!isRegister(r)) {
            return false;
        }
        registers[r] = v;
        return true;
    }

    public long get(int r) {
        return isRegister(r) ? registers[r] : 0;
    }

    public void under(boolean asked) {
        underflowAsked = asked;
    }

    public int sum(int size, int a, int b, int to) {
        int refusal = refusalOf(size, a, b, to);
        return refusal != OK ? refusal : storeSum(size, to, valueIn(size, b), valueIn(size, a));
    }

    public int less(int size, int a, int b, int to) {
        int refusal = refusalOf(size, a, b, to);
        return refusal != OK ? refusal : storeSum(size, to, valueIn(size, b), -valueIn(size, a));
    }

    public int product(int size, int a, int b, int to) {
        int refusal = refusalOf(size, a, b, to);
        return refusal != OK ? refusal : storeProduct(size, to, valueIn(size, a), valueIn(size, b));
    }

    public int quotient(int size, int a, int b, int to) {
        int refusal = refusalOf(size, a, b, to);
        if (refusal != OK) {
            return refusal;
        }
        long divisor = valueIn(size, a);
        return divisor == 0 ? DIVISION_BY_ZERO : storeQuotient(size, to, valueIn(size, b), divisor);
    }

    public int negative(int size, int a, int to) {
        int refusal = refusalOf(size, a, a, to);
        return refusal != OK ? refusal : storeValue(size, to, -valueIn(size, a));
    }

    public int compare(int size, int a, int b) {
        int refusal = refusalOf(size, a, b, a);
        if (refusal != OK) {
            return refusal;
        }
        return flagsOf(Long.compare(valueIn(size, a), valueIn(size, b)));
    }

    public int change(int size, int a, int to) {
        int refusal = refusalOf(size, a, a, to);
        int otherSize = size == SHORT_SIZE ? LONG_SIZE : SHORT_SIZE;
        return refusal != OK ? refusal : storeValue(otherSize, to, valueIn(size, a));
    }

    public int whole(int size, int a, int n, boolean rounded, int to) {
        if (n != 1 && n != 2 && n != 4) {
            return NO_SUCH;
        }
        int refusal = refusalOf(size, a, a, to);
        if (refusal != OK) {
            return refusal;
        }
        long exact = wholeOf(valueIn(size, a), rounded);
        int unused = 64 - 8 * n;
        long kept = (exact << unused) >> unused;
        registers[to] = kept;
        return flagsOf(kept) | (kept != exact ? ANOTHER_NUMBER : 0);
    }

    public int number(int size, int v, int to) {
        if (!isSize(size) || !isRegister(to)) {
            return NO_SUCH;
        }
        // As a long, since the lowest int has no opposite among the ints.
        return storeRounded(size, to, v < 0, BIAS + WIDE_BITS, Math.abs((long) v));
    }

    public boolean lost() {
        return lastWasInexact;
    }

    private static boolean isRegister(int r) {
        return r >= 0 && r < REGISTERS;
    }

    private static boolean isSize(int size) {
        return size == SHORT_SIZE || size == LONG_SIZE;
    }

    private boolean isReserved(int r) {
        return (registers[r] & SIGN_AND_EXPONENT) == SIGN_BIT;
    }

    /** What stands against reading a and b and writing to, or OK. */
    private int refusalOf(int size, int a, int b, int to) {
        if (!isSize(size) || !isRegister(a) || !isRegister(b) || !isRegister(to)) {
            return NO_SUCH;
        }
        return isReserved(a) || isReserved(b) ? RESERVED : OK;
    }

    private static int flagsOf(long result) {
        if (result == 0) {
            return IS_ZERO;
        }
        return result < 0 ? BELOW_ZERO : 0;
    }

    /** The value of the float in a register; the caller has refused RESERVED ones. */
    private long valueIn(int size, int r) {
        long bits = size == SHORT_SIZE ? registers[r] & LOW_32 : registers[r];
        long exponent = (bits >>> 7) & 0xFF;
        if (exponent == 0) {
            return 0;
        }
        long fraction = (bits & 0x7F) << 48
                | ((bits >>> 16) & LOW_16) << 32
                | ((bits >>> 32) & LOW_16) << 16
                | (bits >>> 48);
        long magnitude = exponent << FRACTION_BITS | fraction;
        return (bits & SIGN_BIT) != 0 ? -magnitude : magnitude;
    }

    private static long bitsOf(boolean below, int exponent, long fraction) {
        return (below ? SIGN_BIT : 0)
                | (long) exponent << 7
                | (fraction >>> 48)
                | ((fraction >>> 32) & LOW_16) << 16
                | ((fraction >>> 16) & LOW_16) << 32
                | (fraction & LOW_16) << 48;
    }

    private static int exponentOf(long value) {
        return (int) (Math.abs(value) >>> FRACTION_BITS);
    }

    /** The 56 bits behind the point, the first of them 1; only for values that are not 0. */
    private static long significandOf(long value) {
        return (Math.abs(value) & FRACTION) | FIRST_BIT;
    }

    private int storeZero(int to, boolean inexact) {
        registers[to] = 0;
        lastWasInexact = inexact;
        return IS_ZERO;
    }

    private int storeValue(int size, int to, long value) {
        if (value == 0) {
            return storeZero(to, false);
        }
        return storeRounded(size, to, value < 0, exponentOf(value), significandOf(value) << WIDE_SPARE);
    }

    /** Rounds the number whose size without sign is 2 ^ (exponent - 128) * wide / 2 ^ 63. */
    private int storeRounded(int size, int to, boolean below, int exponent, long wide) {
        if (wide == 0) {
            return storeZero(to, false);
        }
        int e = exponent;
        long w = wide;
        for (int i = 0; i < WIDE_BITS && w < WIDE_FIRST_BIT; i++) {
            w <<= 1;
            e--;
        }
        int spare = size == SHORT_SIZE ? WIDE_SPARE_SHORT : WIDE_SPARE;
        boolean inexact = (w & ((1L << spare) - 1)) != 0;
        w = (w + (1L << (spare - 1))) >>> spare << spare;
        // Rounded up to the next power of 2, it runs into the long's sign bit.
        if (w < 0) {
            w >>>= 1;
            e++;
        }
        if (e > MOST_EXPONENT) {
            return OVERFLOW;
        }
        if (e < 1) {
            return underflowAsked ? UNDERFLOW : storeZero(to, true);
        }
        registers[to] = bitsOf(below, e, (w >>> WIDE_SPARE) & FRACTION);
        lastWasInexact = inexact;
        return below ? BELOW_ZERO : 0;
    }

    private int storeSum(int size, int to, long x, long y) {
        if (x == 0 || y == 0) {
            return storeValue(size, to, x == 0 ? y : x);
        }
        boolean xIsLarger = Math.abs(x) >= Math.abs(y);
        long larger = xIsLarger ? x : y;
        long smaller = xIsLarger ? y : x;
        // One bit less than a wide number has, so that the sum of the two has room.
        int room = WIDE_SPARE - 1;
        int apart = exponentOf(larger) - exponentOf(smaller);
        long first = significandOf(larger) << room;
        long second = shiftedDown(significandOf(smaller) << room, apart);
        boolean sameSign = (larger < 0) == (smaller < 0);
        long wide = sameSign ? first + second : first - second;
        return storeRounded(size, to, larger < 0, exponentOf(larger) + 1, wide);
    }

    /** Keeps in the lowest bit that something was cut off; wide is not 0. */
    private static long shiftedDown(long wide, int by) {
        if (by >= WIDE_BITS) {
            return 1;
        }
        long kept = wide >>> by;
        return kept << by == wide ? kept : kept | 1;
    }

    private int storeProduct(int size, int to, long x, long y) {
        if (x == 0 || y == 0) {
            return storeZero(to, false);
        }
        long wide = wideProduct(significandOf(x), significandOf(y));
        return storeRounded(size, to, (x < 0) != (y < 0), exponentOf(x) + exponentOf(y) - BIAS, wide);
    }

    /** The product of two significands has 112 bits: worked out in halves of 28, cut to 63. */
    private static long wideProduct(long x, long y) {
        long xHigh = x >>> HALF_BITS;
        long xLow = x & LOW_HALF;
        long yHigh = y >>> HALF_BITS;
        long yLow = y & LOW_HALF;
        long middle = xHigh * yLow + xLow * yHigh;
        long low = xLow * yLow + ((middle & LOW_HALF) << HALF_BITS);
        long high = xHigh * yHigh + (middle >>> HALF_BITS) + (low >>> SIGNIFICAND_BITS);
        long lowRest = low & ((1L << SIGNIFICAND_BITS) - 1);
        int cut = SIGNIFICAND_BITS - WIDE_SPARE;
        long wide = high << WIDE_SPARE | lowRest >>> cut;
        return (lowRest & ((1L << cut) - 1)) != 0 ? wide | 1 : wide;
    }

    private int storeQuotient(int size, int to, long x, long divisor) {
        if (x == 0) {
            return storeZero(to, false);
        }
        long wide = wideQuotient(significandOf(x), significandOf(divisor));
        // The first bit of the quotient stands before the point: hence one more.
        int exponent = exponentOf(x) - exponentOf(divisor) + BIAS + 1;
        return storeRounded(size, to, (x < 0) != (divisor < 0), exponent, wide);
    }

    /** Long division, a bit at a time: the rest stays below twice the divisor. */
    private static long wideQuotient(long x, long divisor) {
        long rest = x;
        long wide = 0;
        for (int i = 0; i < WIDE_BITS; i++) {
            wide <<= 1;
            if (rest >= divisor) {
                rest -= divisor;
                wide |= 1;
            }
            rest <<= 1;
        }
        return rest != 0 ? wide | 1 : wide;
    }

    /** The value as a whole number; see wholeSize for those that are too large for any n. */
    private static long wholeOf(long value, boolean rounded) {
        if (value == 0) {
            return 0;
        }
        int up = exponentOf(value) - BIAS - SIGNIFICAND_BITS;
        long size = wholeSize(significandOf(value), up, rounded);
        return value < 0 ? -size : size;
    }

    /** significand * 2 ^ up as a whole number. */
    private static long wholeSize(long significand, int up, boolean rounded) {
        if (up >= 0) {
            // May not fit a long: the low 32 bits are right, and the first bit keeps it too large.
            long low = up < 32 ? (significand << up) & LOW_32 : 0;
            return low | FIRST_BIT;
        }
        int down = -up;
        if (down > SIGNIFICAND_BITS) {
            return 0;
        }
        return rounded ? ((significand >>> (down - 1)) + 1) >>> 1 : significand >>> down;
    }
}
