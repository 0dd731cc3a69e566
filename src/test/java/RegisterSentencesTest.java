/** The document's 'Terms', REGISTERS: a test for each sentence. */
public final class RegisterSentencesTest {
    private static final long TWO = 0x4100L;
    private static final long SIX = 0x41C0L;
    private static final int[] NONE = {-1, 8, 9, 15, -8, 256, Integer.MAX_VALUE, Integer.MIN_VALUE};
    private static final long[] ABOVE_32 = {0xFFFF_FFFF_0000_0000L, 0x8000_0000_0000_0000L, 0x0000_0001_0000_0000L,
        0x0000_8000_0000_0000L, 0x1234_5678_0000_0000L};

    private final Check check;

    private RegisterSentencesTest(Check check) {
        this.check = check;
    }

    /** What each call writes where a is 2 and b is 6. */
    private static long due(Calls call) {
        return switch (call) {
            case SUM -> 0x4200L;
            case LESS -> 0x4180L;
            case PRODUCT -> 0x4240L;
            case QUOTIENT -> 0x4140L;
            case NEGATIVE -> 0xC100L;
            case CHANGE -> 0x4100L;
            case WHOLE -> 2L;
            case NUMBER -> 0x4140L;
            case COMPARE -> 0L;
        };
    }

    private static int answerDue(Calls call) {
        return call == Calls.NEGATIVE || call == Calls.COMPARE ? 8 : 0;
    }

    /** Each register can be each operand, and no call writes to another one. */
    private void eight(int size) {
        check.sentence("There are eight REGISTERS, 0 .. 7");
        for (Calls call : Calls.values()) {
            for (int to = 0; to < 8; to++) {
                for (int i = 0; i < 8; i++) {
                    int a = i;
                    int b = (i + 3) % 8;
                    ExactFloats x = Bits.with(10, 11, 12, 13, 14, 15, 16, 17);
                    x.set(a, TWO);
                    x.set(b, SIX);
                    String which = call + "(" + size + ", " + a + ", " + b + ", " + to + ")";
                    check.due(which, call.on(x, size, a, b, to), answerDue(call));
                    for (int r = 0; r < 8; r++) {
                        long want = call.takesTo() && r == to ? due(call) : r == a ? TWO : r == b ? SIX : 10 + r;
                        check.due(which + ": get(" + r + ")", x.get(r), want);
                    }
                }
            }
        }
    }

    private void noOthers(int size) {
        check.sentence("There are eight REGISTERS, 0 .. 7");
        for (Calls call : Calls.values()) {
            for (int none : NONE) {
                ExactFloats x = Bits.with(TWO, SIX);
                String which = call + " of size " + size + ", register " + none;
                if (call.takesA()) {
                    check.refuses(which + " as a", x, -5, () -> call.on(x, size, none, 1, 2));
                }
                if (call.takesB()) {
                    check.refuses(which + " as b", x, -5, () -> call.on(x, size, 0, none, 2));
                }
                if (call.takesTo()) {
                    check.refuses(which + " as to", x, -5, () -> call.on(x, size, 0, 1, none));
                }
            }
        }
    }

    private void bits() {
        check.sentence("of 64 bits");
        for (int r = 0; r < 8; r++) {
            for (int bit = 0; bit < 64; bit += 3) {
                ExactFloats x = new ExactFloats();
                check.due("set(" + r + ", bit " + bit + ")", x.set(r, 1L << bit), true);
                check.due("get(" + r + ")", x.get(r), 1L << bit);
                x.set(r, ~(1L << bit));
                check.due("all but bit " + bit, x.get(r), ~(1L << bit));
            }
        }
    }

    private void atFirst() {
        check.sentence("0 at first");
        ExactFloats x = new ExactFloats();
        for (int r = 0; r < 8; r++) {
            check.due("get(" + r + ")", x.get(r), 0);
            check.due("compare(4, " + r + ", 0)", x.compare(4, r, 0), 4);
            check.due("compare(8, " + r + ", 7)", x.compare(8, r, 7), 4);
        }
    }

    private void lowCount() {
        check.sentence("of size 4 the low 32 count");
        for (long above : ABOVE_32) {
            for (Calls call : Calls.values()) {
                ExactFloats x = Bits.with(TWO | above, SIX | ~above & 0xFFFF_FFFF_0000_0000L);
                check.due(call + " with bits above 32", call.on(x, 4, 0, 1, 2), answerDue(call));
                check.due(call + ": get(2)", x.get(2), due(call));
                check.due(call + ": lost()", x.lost(), false);
                check.due(call + ": what is read stays", x.get(0), TWO | above);
            }
            ExactFloats x = Bits.with(TWO | above, TWO, 0x8000L | above, above, 0x8080L | above);
            check.due("alike in the low 32", x.compare(4, 0, 1), 4);
            check.due("turned", x.compare(4, 1, 0), 4);
            check.due("not alike of size 8", x.compare(8, 1, 0), 8);
            check.due("RESERVED in the low 32", x.negative(4, 2, 7), -1);
            check.due("0 in the low 32", x.compare(4, 3, 5), 4);
            check.due("by what is 0 in the low 32", x.quotient(4, 3, 1, 7), -4);
            check.due("below 0 in the low 32", x.compare(4, 4, 5), 8);
        }
    }

    private void othersAreZero() {
        check.sentence("and when one is written the others are 0");
        for (Calls call : Calls.OF_TWO) {
            ExactFloats x = Bits.with(TWO | ABOVE_32[0], SIX | ABOVE_32[0], -1L);
            call.on(x, 4, 0, 1, 2);
            check.due(call + ": get(2)", x.get(2), due(call));
            call.on(x, 4, 0, 1, 1);
            check.due(call + " into b: get(1)", x.get(1), due(call));
            x.set(1, SIX | ABOVE_32[0]);
            call.on(x, 4, 0, 1, 0);
            check.due(call + " into a: get(0)", x.get(0), due(call));
        }
        ExactFloats x = Bits.with(TWO | ABOVE_32[0], -1L, -1L, -1L, 0xFFFF_0001_0000_4080L);
        x.negative(4, 0, 1);
        check.due("negative", x.get(1), 0xC100L);
        x.number(4, 3, 2);
        check.due("number", x.get(2), 0x4140L);
        x.change(8, 4, 3);
        check.due("change to size 4", x.get(3), 0x4080L);
        x.change(4, 0, 5);
        check.due("change from size 4", x.get(5), 0x4100L);
        x.negative(4, 0, 0);
        check.due("negative, into itself", x.get(0), 0xC100L);
        x.change(8, 4, 4);
        check.due("change to size 4, into itself", x.get(4), 0x4080L);
    }

    private void zero(int size) {
        check.sentence("What is 0 is written as 0");
        long dirty = 0x5555_5555_5555_0055L;
        ExactFloats x = Bits.with(TWO, 0xC100L, dirty, 0x0080L, 0x8080L, -1L);
        check.writes("dirty + 0", x, x.sum(size, 2, 6, 5), 4, 5, 0, false);
        x.set(5, -1L);
        check.writes("2 + -2", x, x.sum(size, 0, 1, 5), 4, 5, 0, false);
        x.set(5, -1L);
        check.writes("-2 - -2", x, x.less(size, 1, 1, 5), 4, 5, 0, false);
        x.set(5, -1L);
        check.writes("dirty - dirty", x, x.less(size, 2, 2, 5), 4, 5, 0, false);
        x.set(5, -1L);
        check.writes("-2 * dirty", x, x.product(size, 1, 2, 5), 4, 5, 0, false);
        x.set(5, -1L);
        check.writes("-smallest * smallest", x, x.product(size, 4, 3, 5), 4, 5, 0, true);
        x.set(5, -1L);
        check.writes("dirty by -2", x, x.quotient(size, 1, 2, 5), 4, 5, 0, false);
        x.set(5, -1L);
        check.writes("negative dirty", x, x.negative(size, 2, 5), 4, 5, 0, false);
        x.set(5, -1L);
        check.writes("change dirty", x, x.change(size, 2, 5), 4, 5, 0, false);
        x.set(5, -1L);
        check.writes("number 0", x, x.number(size, 0, 5), 4, 5, 0, false);
        x.set(5, -1L);
        check.writes("negative dirty, into itself", x, x.negative(size, 2, 2), 4, 2, 0, false);
    }

    public static void main(String[] args) {
        Check check = new Check();
        RegisterSentencesTest test = new RegisterSentencesTest(check);
        for (int size = 4; size <= 8; size += 4) {
            test.eight(size);
            test.noOthers(size);
            test.zero(size);
        }
        test.bits();
        test.atFirst();
        test.lowCount();
        test.othersAreZero();
        check.end();
    }
}
