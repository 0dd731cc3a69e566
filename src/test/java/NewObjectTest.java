/** Promise 1: all is 0, UNDERFLOW is not asked for, nothing was lost; no object knows of another. */
public final class NewObjectTest {
    private static void looksNew(Check check, ExactFloats x) {
        check.due("lost()", x.lost(), false);
        for (int r = 0; r < 8; r++) {
            check.due("get(" + r + ")", x.get(r), 0);
        }
        x.set(0, Bits.SMALLEST);
        check.writes("underflow", x, x.product(8, 0, 0, 1), 4, 1, 0, true);
    }

    public static void main(String[] args) {
        Check check = new Check();
        looksNew(check, new ExactFloats());

        ExactFloats used = new ExactFloats();
        used.under(true);
        for (int r = 0; r < 8; r++) {
            used.set(r, r + 1L);
        }
        used.number(4, 0x7FFFFFFF, 3);
        check.due("used: lost()", used.lost(), true);
        looksNew(check, new ExactFloats());
        check.due("used: get(7)", used.get(7), 8);
        check.end();
    }
}
