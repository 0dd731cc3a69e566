/** The document's 'Terms', ANSWERS, and its memory: a test for each sentence. */
public final class AnswerSentencesTest {
    private static final long LARGEST = 0xFFFF_FFFF_FFFF_7FFFL;
    private static final long SMALLEST = 0x0080L;
    private static final long RESERVED = 0x8000L;
    private static final int[] NO_SIZE = {0, 1, 2, 3, 5, 6, 7, 9, 12, 16, 32, 64, -4, -8, 260, Integer.MAX_VALUE,
        Integer.MIN_VALUE};

    private final Check check;

    private AnswerSentencesTest(Check check) {
        this.check = check;
    }

    /** Registers 0, 1, 2, 3 are 2, -2, 0 and 6. */
    private static ExactFloats small() {
        return Bits.with(0x4100L, 0xC100L, 0, 0x41C0L);
    }

    private void flags(int size, Calls call, int a, int b, int want) {
        ExactFloats x = small();
        check.due(call + "(" + size + ", " + a + ", " + b + ", 5)", call.on(x, size, a, b, 5), want);
    }

    private void belowZero(int size) {
        check.sentence("8 if the result is below 0");
        flags(size, Calls.SUM, 1, 1, 8);
        flags(size, Calls.SUM, 0, 3, 0);
        flags(size, Calls.LESS, 3, 0, 8);
        flags(size, Calls.LESS, 0, 3, 0);
        flags(size, Calls.PRODUCT, 1, 3, 8);
        flags(size, Calls.PRODUCT, 1, 1, 0);
        flags(size, Calls.QUOTIENT, 1, 3, 8);
        flags(size, Calls.QUOTIENT, 1, 1, 0);
        flags(size, Calls.NEGATIVE, 0, 0, 8);
        flags(size, Calls.NEGATIVE, 1, 0, 0);
        flags(size, Calls.CHANGE, 1, 0, 8);
        flags(size, Calls.CHANGE, 0, 0, 0);
        flags(size, Calls.WHOLE, 1, 0, 8);
        flags(size, Calls.WHOLE, 0, 0, 0);
        ExactFloats x = small();
        check.due("number -1", x.number(size, -1, 5), 8);
        check.due("number 1", x.number(size, 1, 5), 0);
    }

    private void isZero(int size) {
        check.sentence("4 if it is 0");
        flags(size, Calls.SUM, 0, 1, 4);
        flags(size, Calls.LESS, 1, 1, 4);
        flags(size, Calls.PRODUCT, 2, 1, 4);
        flags(size, Calls.PRODUCT, 1, 2, 4);
        flags(size, Calls.QUOTIENT, 1, 2, 4);
        flags(size, Calls.NEGATIVE, 2, 0, 4);
        flags(size, Calls.CHANGE, 2, 0, 4);
        flags(size, Calls.WHOLE, 2, 0, 4);
        ExactFloats x = small();
        check.due("number 0", x.number(size, 0, 5), 4);
        x.set(6, 0x8080L);
        check.due("below 0, but e below 1", x.quotient(size, 0, 6, 5), 4);
    }

    /** Only whole() and compare() tell flags otherwise, and only whole() tells 2. */
    private void two(int size) {
        check.sentence("2 as told");
        ExactFloats x = Bits.with(0x4080L, 0x4140L, 0xC140L);
        check.due("a sum that is lost", x.sum(size, 0, 5, 5), 0);
        x.set(4, SMALLEST);
        check.due("a sum that is lost", x.sum(size, 0, 4, 5), 0);
        check.due("a quotient that is lost", x.quotient(size, 1, 0, 5), 0);
        check.due("one below 0", x.quotient(size, 2, 0, 5), 8);
        check.due("a product that is 0 and lost", x.product(size, 4, 4, 5), 4);
        check.due("a number that is lost", x.number(4, 16777217, 5), 0);
        x.set(6, 0x43FFL);
        check.due("a whole number that is cut, below 0", x.whole(size, 6, 1, true, 5), 10);
        x.set(6, 0x4480L);
        check.due("one that is cut to 0", x.whole(size, 6, 1, true, 5), 6);
        x.set(6, 0x4481L);
        check.due("one that is cut to what is above 0", x.whole(size, 6, 1, true, 5), 2);
        x.set(6, 0x40C0L);
        check.due("a fraction that is cut off", x.whole(size, 6, 1, false, 5), 0);
    }

    private void noSuch() {
        check.sentence("-5 no such register or size (4, 8)");
        for (Calls call : Calls.values()) {
            for (int size : NO_SIZE) {
                ExactFloats x = small();
                check.refuses(call + " of size " + size, x, -5, () -> call.on(x, size, 0, 3, 5));
            }
            ExactFloats x = small();
            check.due(call + " of size 4", call.on(x, 4, 0, 3, 5) >= 0, true);
            check.due(call + " of size 8", call.on(x, 8, 0, 3, 5) >= 0, true);
        }
    }

    /** Registers: 0 is 1, 1 RESERVED, 2 is 0, 3 the largest, 4 the smallest; UNDERFLOW is asked for. */
    private static ExactFloats edges() {
        ExactFloats x = Bits.with(0x4080L, RESERVED, 0, LARGEST, SMALLEST, 15, 16, 17);
        x.under(true);
        return x;
    }

    private void refused(Calls call, int size, int a, int b, int to, int want) {
        ExactFloats x = edges();
        check.refuses(call + "(" + size + ", " + a + ", " + b + ", " + to + ")", x, want,
                () -> call.on(x, size, a, b, to));
    }

    private void noSuchFirst(int size) {
        check.sentence("in this order, -5 .., -1 ..");
        for (Calls call : Calls.OF_TWO) {
            refused(call, size, 1, 0, 8, -5);
            refused(call, size, 1, 8, 5, -5);
            refused(call, size, -1, 1, 5, -5);
            refused(call, size + 1, 1, 1, 5, -5);
        }
        for (Calls call : Calls.OF_ONE) {
            refused(call, size, 1, 0, 8, -5);
            refused(call, size, 1, 0, -1, -5);
            refused(call, size + 1, 1, 0, 5, -5);
        }
        refused(Calls.COMPARE, size, 1, 8, 5, -5);
        refused(Calls.COMPARE, size, -1, 1, 5, -5);
        refused(Calls.COMPARE, size - 1, 1, 0, 5, -5);
        ExactFloats x = edges();
        check.refuses("whole of RESERVED, n 3", x, -5, () -> x.whole(size, 1, 3, true, 5));
        check.sentence("in this order, -5 .., -4 .., -2 .., -3 ..");
        refused(Calls.QUOTIENT, size, 2, 0, 8, -5);
        refused(Calls.QUOTIENT, size, 2, 8, 5, -5);
        refused(Calls.QUOTIENT, 5, 2, 2, 5, -5);
        refused(Calls.PRODUCT, size, 3, 3, 8, -5);
        refused(Calls.SUM, size, 3, 3, -1, -5);
        refused(Calls.PRODUCT, 16, 3, 3, 5, -5);
        refused(Calls.PRODUCT, size, 4, 4, 8, -5);
        refused(Calls.PRODUCT, 0, 4, 4, 5, -5);
    }

    private void reservedSecond(int size) {
        check.sentence("-1 a float that is read is RESERVED");
        for (Calls call : Calls.OF_TWO) {
            for (int other = 0; other < 5; other++) {
                refused(call, size, 1, other, 5, -1);
                refused(call, size, other, 1, 5, -1);
            }
        }
        for (Calls call : Calls.OF_ONE) {
            refused(call, size, 1, 0, 5, -1);
            refused(call, size, 1, 0, 1, -1);
        }
        refused(Calls.COMPARE, size, 1, 0, 5, -1);
        refused(Calls.COMPARE, size, 0, 1, 5, -1);
        // It is only written there, not read.
        for (Calls call : Calls.values()) {
            ExactFloats x = Bits.with(0x4100L, 0x41C0L, RESERVED);
            check.due(call + " to a RESERVED one", call.on(x, size, 0, 1, 2) >= 0, true);
        }
    }

    private void byZeroThird(int size) {
        check.sentence("-4 a division by 0 (also of 0)");
        refused(Calls.QUOTIENT, size, 2, 0, 5, -4);
        refused(Calls.QUOTIENT, size, 2, 2, 5, -4);
        refused(Calls.QUOTIENT, size, 2, 2, 2, -4);
        refused(Calls.QUOTIENT, size, 2, 3, 5, -4);
        refused(Calls.QUOTIENT, size, 2, 4, 5, -4);
        ExactFloats x = Bits.with(0x4080L, 0x7F00_0000_007FL, 0xC080L);
        check.refuses("by a 0 with a fraction", x, -4, () -> x.quotient(size, 1, 0, 5));
        check.refuses("of what is below 0", x, -4, () -> x.quotient(size, 1, 2, 5));
        check.refuses("of 0, UNDERFLOW not asked for", x, -4, () -> x.quotient(size, 1, 7, 5));
        check.sentence("in this order, -1 .., -4 ..");
        refused(Calls.QUOTIENT, size, 2, 1, 5, -1);
        refused(Calls.QUOTIENT, size, 1, 2, 5, -1);
    }

    private void lastTwo(int size) {
        check.sentence("-2 OVERFLOW, -3 UNDERFLOW");
        refused(Calls.SUM, size, 3, 3, 5, -2);
        refused(Calls.PRODUCT, size, 3, 3, 5, -2);
        refused(Calls.QUOTIENT, size, 4, 3, 5, -2);
        refused(Calls.PRODUCT, size, 4, 4, 5, -3);
        refused(Calls.QUOTIENT, size, 3, 4, 5, -3);
        ExactFloats x = edges();
        x.set(5, RESERVED | LARGEST);
        check.refuses("LESS", x, -2, () -> x.less(size, 5, 3, 6));
        x.set(5, 0x00C0L);
        check.refuses("LESS", x, -3, () -> x.less(size, 4, 5, 6));
    }

    /** Each refusal, into each register, behind an exact float and behind one that is not. */
    private void nothingChanges(int size, boolean asked, boolean lost) {
        check.sentence("nothing changes then");
        for (int to = 0; to < 8; to++) {
            int into = to;
            ExactFloats x = edges();
            x.under(asked);
            x.number(4, lost ? 16777217 : 16777216, 7);
            check.due("lost() before", x.lost(), lost);
            check.refuses("-5", x, -5, () -> x.sum(3, 0, 0, into));
            check.refuses("-5, register", x, -5, () -> x.product(size, 0, 8, into));
            check.refuses("-5, n", x, -5, () -> x.whole(size, 0, 8, true, into));
            check.refuses("-1", x, -1, () -> x.negative(size, 1, into));
            check.refuses("-1, whole", x, -1, () -> x.whole(size, 1, 1, true, into));
            check.refuses("-4", x, -4, () -> x.quotient(size, 2, 0, into));
            check.refuses("-2", x, -2, () -> x.sum(size, 3, 3, into));
            check.refuses("-2, change", x, -2, () -> x.change(8, 3, into));
            if (asked) {
                check.refuses("-3", x, -3, () -> x.product(size, 4, 4, into));
            }
            check.due("UNDERFLOW is asked for as before", x.product(size, 4, 4, 6), asked ? -3 : 4);
        }
    }

    /** Two objects, turn by turn. */
    private void ownMemory() {
        check.sentence("All memory is the class's own");
        ExactFloats x = new ExactFloats();
        ExactFloats y = new ExactFloats();
        x.under(true);
        for (int r = 0; r < 8; r++) {
            x.set(r, 100 + r);
            y.set(r, 200 + r);
        }
        x.number(4, 16777217, 0);
        y.number(4, 16777216, 0);
        check.due("x.lost()", x.lost(), true);
        check.due("y.lost()", y.lost(), false);
        check.due("x.get(0)", x.get(0), 0x0001_4C80L);
        check.due("y.get(0)", y.get(0), 0x4C80L);
        for (int r = 1; r < 8; r++) {
            check.due("x.get(" + r + ")", x.get(r), 100 + r);
            check.due("y.get(" + r + ")", y.get(r), 200 + r);
        }
        x.set(1, SMALLEST);
        y.set(1, SMALLEST);
        check.due("x, asked for", x.product(4, 1, 1, 2), -3);
        check.due("y, not asked for", y.product(4, 1, 1, 2), 4);
    }

    public static void main(String[] args) {
        Check check = new Check();
        AnswerSentencesTest test = new AnswerSentencesTest(check);
        for (int size = 4; size <= 8; size += 4) {
            test.belowZero(size);
            test.isZero(size);
            test.two(size);
            test.noSuchFirst(size);
            test.reservedSecond(size);
            test.byZeroThird(size);
            test.lastTwo(size);
            for (int i = 0; i < 4; i++) {
                test.nothingChanges(size, (i & 1) != 0, (i & 2) != 0);
            }
        }
        test.noSuch();
        test.ownMemory();
        check.end();
    }
}
