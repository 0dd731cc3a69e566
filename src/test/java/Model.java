import java.math.BigInteger;

/** The document once more, in fractions of BigIntegers: slow, and with nothing of the class's own ways. */
final class Model {
    private static final BigInteger ONE = BigInteger.ONE;
    private static final BigInteger TWO = BigInteger.TWO;

    /** An exact number: above / under, under above 0. */
    private record Exact(BigInteger above, BigInteger under) {
        Exact plus(Exact o) {
            return new Exact(above.multiply(o.under).add(o.above.multiply(under)), under.multiply(o.under));
        }

        Exact minus() {
            return new Exact(above.negate(), under);
        }

        Exact times(Exact o) {
            return new Exact(above.multiply(o.above), under.multiply(o.under));
        }

        Exact by(Exact o) {
            Exact turned = o.above.signum() < 0
                    ? new Exact(o.under.negate(), o.above.negate()) : new Exact(o.under, o.above);
            return times(turned);
        }

        Exact timesPower(int p) {
            return p >= 0 ? new Exact(above.shiftLeft(p), under) : new Exact(above, under.shiftLeft(-p));
        }

        boolean isZero() {
            return above.signum() == 0;
        }

        int sign() {
            return above.signum();
        }

        Exact size() {
            return new Exact(above.abs(), under);
        }

        int compare(Exact o) {
            return above.multiply(o.under).compareTo(o.above.multiply(under));
        }

        /** Only for numbers not below 0. */
        BigInteger floor() {
            return above.divide(under);
        }

        BigInteger nearest() {
            return above.multiply(TWO).add(under).divide(under.multiply(TWO));
        }
    }

    final long[] registers = new long[8];
    boolean asked = false;
    boolean lost = false;

    boolean set(int r, long v) {
        if (r < 0 || r > 7) {
            return false;
        }
        registers[r] = v;
        return true;
    }

    long get(int r) {
        return r < 0 || r > 7 ? 0 : registers[r];
    }

    private int refusal(int size, int... used) {
        if (size != 4 && size != 8) {
            return -5;
        }
        for (int r : used) {
            if (r < 0 || r > 7) {
                return -5;
            }
        }
        return 0;
    }

    private boolean reserved(int r) {
        return Bits.exponent(registers[r]) == 0 && Bits.isBelow(registers[r]);
    }

    private Exact read(int size, int r) {
        long bits = registers[r];
        int e = Bits.exponent(bits);
        if (e == 0) {
            return new Exact(BigInteger.ZERO, ONE);
        }
        int width = size == 4 ? 23 : 55;
        BigInteger m = BigInteger.valueOf(Bits.fraction(size, bits)).add(ONE.shiftLeft(width));
        Exact x = new Exact(m, ONE).timesPower(e - 128 - width - 1);
        return Bits.isBelow(bits) ? x.minus() : x;
    }

    private int write(int size, Exact x, int to) {
        if (x.isZero()) {
            return zero(to, false);
        }
        int width = size == 4 ? 24 : 56;
        int power = x.size().above.bitLength() - x.under.bitLength();
        Exact scaled = x.size().timesPower(-power);
        Exact one = new Exact(ONE, ONE);
        if (scaled.compare(one) >= 0) {
            power++;
            scaled = scaled.timesPower(-1);
        }
        BigInteger m = scaled.timesPower(width).nearest();
        boolean inexact = scaled.timesPower(width).compare(new Exact(m, ONE)) != 0;
        if (m.equals(ONE.shiftLeft(width))) {
            m = m.shiftRight(1);
            power++;
        }
        int e = power + 128;
        if (e > 255) {
            return -2;
        }
        if (e < 1) {
            return asked ? -3 : zero(to, true);
        }
        long fraction = m.subtract(ONE.shiftLeft(width - 1)).longValueExact();
        long bits = size == 4 ? Bits.of4(e, fraction) : Bits.of(e, fraction);
        registers[to] = x.sign() < 0 ? Bits.minus(bits) : bits;
        lost = inexact;
        return x.sign() < 0 ? 8 : 0;
    }

    private int zero(int to, boolean inexact) {
        registers[to] = 0;
        lost = inexact;
        return 4;
    }

    /** kind 0 sum, 1 less, 2 product, 3 quotient. */
    int twoPlaced(int kind, int size, int a, int b, int to) {
        if (refusal(size, a, b, to) != 0) {
            return -5;
        }
        if (reserved(a) || reserved(b)) {
            return -1;
        }
        Exact x = read(size, a);
        Exact y = read(size, b);
        switch (kind) {
            case 0:
                return write(size, y.plus(x), to);
            case 1:
                return write(size, y.plus(x.minus()), to);
            case 2:
                return write(size, x.times(y), to);
            default:
                return x.isZero() ? -4 : write(size, y.by(x), to);
        }
    }

    int negative(int size, int a, int to) {
        if (refusal(size, a, to) != 0) {
            return -5;
        }
        return reserved(a) ? -1 : write(size, read(size, a).minus(), to);
    }

    int compare(int size, int a, int b) {
        if (refusal(size, a, b) != 0) {
            return -5;
        }
        if (reserved(a) || reserved(b)) {
            return -1;
        }
        int order = read(size, a).compare(read(size, b));
        return order < 0 ? 8 : order == 0 ? 4 : 0;
    }

    int change(int size, int a, int to) {
        if (refusal(size, a, to) != 0) {
            return -5;
        }
        return reserved(a) ? -1 : write(12 - size, read(size, a), to);
    }

    int whole(int size, int a, int n, boolean rounded, int to) {
        if (refusal(size, a, to) != 0 || (n != 1 && n != 2 && n != 4)) {
            return -5;
        }
        if (reserved(a)) {
            return -1;
        }
        Exact x = read(size, a);
        BigInteger number = rounded ? x.size().nearest() : x.size().floor();
        if (x.sign() < 0) {
            number = number.negate();
        }
        BigInteger all = ONE.shiftLeft(8 * n);
        BigInteger low = number.mod(all);
        if (low.testBit(8 * n - 1)) {
            low = low.subtract(all);
        }
        registers[to] = low.longValueExact();
        int flags = low.signum() < 0 ? 8 : low.signum() == 0 ? 4 : 0;
        return low.equals(number) ? flags : flags | 2;
    }

    int number(int size, int v, int to) {
        return refusal(size, to) != 0 ? -5 : write(size, new Exact(BigInteger.valueOf(v), ONE), to);
    }
}
