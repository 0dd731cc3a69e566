import java.util.Random;

/** Promises 1 to 14: long runs of calls, each answer and the whole state against the model's. */
public final class ModelRunsTest {
    private static final int RUNS = 30000;
    // Each is followed by nine looks at the state: with them a run stays within 512 calls.
    private static final int CALLS = 45;
    private static final int[] EDGES = {1, 1, 2, 3, 24, 56, 57, 64, 65, 127, 128, 129, 130, 136, 144, 160, 161,
        183, 184, 185, 192, 200, 216, 248, 254, 255, 255};

    private final Random random;
    private final Check check;
    private ExactFloats x;
    private Model model;
    private int near;

    private ModelRunsTest(Check check, long seed) {
        this.check = check;
        this.random = new Random(seed);
    }

    private long fraction() {
        long all = random.nextLong() & Bits.ALL_ONES_8;
        switch (random.nextInt(8)) {
            case 0:
                return 0;
            case 1:
                return Bits.ALL_ONES_8;
            case 2:
                return 1L << random.nextInt(55);
            case 3:
                return Bits.ALL_ONES_8 ^ 1L << random.nextInt(55);
            case 4:
                return all & -(1L << random.nextInt(55));
            case 5:
                return all >>> random.nextInt(55);
            default:
                return all;
        }
    }

    private int exponent() {
        switch (random.nextInt(4)) {
            case 0:
                return random.nextInt(256);
            case 1:
                return EDGES[random.nextInt(EDGES.length)];
            default:
                return Math.max(0, Math.min(255, near + random.nextInt(65) - 32));
        }
    }

    private long bits() {
        if (random.nextInt(40) == 0) {
            return random.nextLong();
        }
        int e = exponent();
        long made = random.nextInt(3) == 0 ? Bits.of4(e, fraction() >>> 32) : Bits.of(e, fraction());
        boolean below = random.nextBoolean() && (e != 0 || random.nextInt(4) == 0);
        return below ? Bits.minus(made) : made;
    }

    private int register() {
        return random.nextInt(60) == 0 ? random.nextInt(5) * 1000 - 2001 : random.nextInt(120) == 0 ? 8
                : random.nextInt(8);
    }

    private int size() {
        return random.nextInt(60) == 0 ? random.nextInt(12) - 1 : random.nextBoolean() ? 4 : 8;
    }

    private int bytes() {
        return random.nextInt(30) == 0 ? random.nextInt(12) - 2 : 1 << random.nextInt(3);
    }

    private void call() {
        int size = size();
        int a = register();
        int b = register();
        int to = register();
        switch (random.nextInt(15)) {
            case 0:
            case 1:
            case 2:
            case 3:
                long v = bits();
                check.due("set(" + a + ", " + v + ")", x.set(a, v), model.set(a, v));
                break;
            case 4:
            case 5:
                check.due("sum", x.sum(size, a, b, to), model.twoPlaced(0, size, a, b, to));
                break;
            case 6:
                check.due("less", x.less(size, a, b, to), model.twoPlaced(1, size, a, b, to));
                break;
            case 7:
                check.due("product", x.product(size, a, b, to), model.twoPlaced(2, size, a, b, to));
                break;
            case 8:
                check.due("quotient", x.quotient(size, a, b, to), model.twoPlaced(3, size, a, b, to));
                break;
            case 9:
                check.due("negative", x.negative(size, a, to), model.negative(size, a, to));
                break;
            case 10:
                check.due("compare", x.compare(size, a, b), model.compare(size, a, b));
                break;
            case 11:
                check.due("change", x.change(size, a, to), model.change(size, a, to));
                break;
            case 12:
                int n = bytes();
                boolean rounded = random.nextBoolean();
                check.due("whole", x.whole(size, a, n, rounded, to), model.whole(size, a, n, rounded, to));
                break;
            case 13:
                int i = random.nextInt() >> random.nextInt(32);
                check.due("number " + i, x.number(size, i, to), model.number(size, i, to));
                break;
            default:
                boolean asked = random.nextBoolean();
                x.under(asked);
                model.asked = asked;
                check.due("get", x.get(a), model.get(a));
        }
    }

    private void run() {
        x = new ExactFloats();
        model = new Model();
        near = random.nextInt(256);
        for (int r = 0; r < 8; r++) {
            long v = bits();
            check.due("set(" + r + ", " + v + ")", x.set(r, v), model.set(r, v));
        }
        for (int i = 0; i < CALLS; i++) {
            call();
            check.due("lost()", x.lost(), model.lost);
            for (int r = 0; r < 8; r++) {
                check.due("get(" + r + ")", x.get(r), model.registers[r]);
            }
        }
    }

    public static void main(String[] args) {
        Check check = new Check();
        ModelRunsTest test = new ModelRunsTest(check, 20261115L);
        for (int i = 0; i < RUNS; i++) {
            test.run();
        }
        check.end();
    }
}
