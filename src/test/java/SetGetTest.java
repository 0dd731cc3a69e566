/** Promises 2 and 3: a register is what was set, all 64 bits; there are 0 .. 7 and no others. */
public final class SetGetTest {
    private static final int[] NONE_SUCH = {-1, 8, 9, -8, 64, Integer.MAX_VALUE, Integer.MIN_VALUE};
    private static final long[] VALUES = {-1L, 0x8000L, 0x0123456789ABCDEFL, Long.MIN_VALUE, 0x7FL, 0L};

    public static void main(String[] args) {
        Check check = new Check();
        ExactFloats x = new ExactFloats();
        for (long v : VALUES) {
            for (int r = 0; r < 8; r++) {
                check.due("set(" + r + ", " + v + ")", x.set(r, v + r), true);
            }
            for (int r = 0; r < 8; r++) {
                check.due("get(" + r + ")", x.get(r), v + r);
            }
        }
        for (int r = 0; r < 8; r++) {
            x.set(r, 100 + r);
        }
        for (int r : NONE_SUCH) {
            check.due("set(" + r + ", 5)", x.set(r, 5), false);
            check.due("get(" + r + ")", x.get(r), 0);
        }
        for (int r = 0; r < 8; r++) {
            check.due("behind those, get(" + r + ")", x.get(r), 100 + r);
        }
        check.end();
    }
}
