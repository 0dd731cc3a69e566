/** The document's promises 1 to 11, 13 and 14, sentence by sentence, the bits written out; 12 has its own test. */
public final class PromiseSentencesTest {
    private static final long TWO = 0x4100L;
    private static final long SIX = 0x41C0L;
    private static final long SMALLEST = 0x0080L;
    private static final int[] NONE = {-1, 8, 9, 16, -8, Integer.MAX_VALUE, Integer.MIN_VALUE};

    private final Check check;

    private PromiseSentencesTest(Check check) {
        this.check = check;
    }

    private void newObject() {
        check.sentence("Promise 1: All is 0");
        ExactFloats x = new ExactFloats();
        for (int r = 0; r < 8; r++) {
            check.due("get(" + r + ")", x.get(r), 0);
        }
        check.sentence("Promise 1: UNDERFLOW is not asked for");
        x.set(0, SMALLEST);
        check.due("product(4, 0, 0, 1)", x.product(4, 0, 0, 1), 4);
        check.due("product(8, 0, 0, 1)", x.product(8, 0, 0, 1), 4);
        check.sentence("Promise 1: nothing was lost");
        check.due("lost()", new ExactFloats().lost(), false);
        x = Bits.with(0x8000L, TWO);
        check.due("a refused one", x.sum(4, 0, 1, 2), -1);
        check.due("lost() behind nothing but a refused one", x.lost(), false);
    }

    private void set() {
        check.sentence("Promise 2: A register is v: true");
        long[] values = {0, 1, -1, 0x8000L, 0x7FL, Long.MAX_VALUE, Long.MIN_VALUE, 0x0123_4567_89AB_CDEFL};
        for (int r = 0; r < 8; r++) {
            for (long v : values) {
                ExactFloats x = Bits.with(10, 11, 12, 13, 14, 15, 16, 17);
                check.due("set(" + r + ", " + v + ")", x.set(r, v), true);
                for (int other = 0; other < 8; other++) {
                    check.due("get(" + other + ")", x.get(other), other == r ? v : 10 + other);
                }
            }
        }
        check.sentence("Promise 2: false if there is none such");
        for (int none : NONE) {
            ExactFloats x = Bits.with(10, 11, 12, 13, 14, 15, 16, 17);
            check.due("set(" + none + ", -1)", x.set(none, -1), false);
            for (int r = 0; r < 8; r++) {
                check.due("get(" + r + ")", x.get(r), 10 + r);
            }
        }
    }

    private void get() {
        ExactFloats x = Bits.with(-10, -11, -12, -13, -14, -15, -16, -17);
        check.sentence("Promise 3: What is in a register");
        for (int i = 0; i < 16; i++) {
            int r = i & 7;
            check.due("get(" + r + ")", x.get(r), -10 - r);
        }
        check.sentence("Promise 3: 0 if there is none such");
        for (int none : NONE) {
            check.due("get(" + none + ")", x.get(none), 0);
        }
    }

    /** Whether the next one too small is refused, by each call that can have one. */
    private void isAsked(ExactFloats x, boolean asked, int size) {
        x.set(0, SMALLEST);
        x.set(1, 0x00C0L);
        x.set(2, 0x80C0L);
        x.set(3, TWO);
        int due = asked ? -3 : 4;
        check.due("product", x.product(size, 0, 0, 5), due);
        check.due("quotient", x.quotient(size, 3, 0, 5), due);
        check.due("less", x.less(size, 0, 1, 5), due);
        check.due("sum", x.sum(size, 0, 2, 5), due);
        check.due("product, once more", x.product(size, 0, 0, 5), due);
    }

    private void under(int size) {
        check.sentence("Promise 4: UNDERFLOW is asked for from now on, or not");
        ExactFloats x = new ExactFloats();
        isAsked(x, false, size);
        x.under(false);
        isAsked(x, false, size);
        x.under(true);
        isAsked(x, true, size);
        x.under(true);
        isAsked(x, true, size);
        x.under(false);
        isAsked(x, false, size);
        x.under(true);
        x.number(size, 1, 6);
        x.quotient(size, 7, 6, 6);
        x.whole(size, 6, 4, true, 6);
        isAsked(x, true, size);
        x.set(6, 66);
        x.under(false);
        check.due("what is in a register stays", x.get(6), 66);
        x = Bits.with(SMALLEST);
        x.product(size, 0, 0, 1);
        x.under(true);
        check.due("what was written before stays", x.get(1), 0);
        check.due("and is lost as before", x.lost(), true);
    }

    /** a is 2 and b is 6, then a is -6 and b is 2; into a third one, into a, into b. */
    private void ofTwo(String sentence, int size, Calls call, long first, long second) {
        check.sentence(sentence);
        for (int to = 0; to < 3; to++) {
            ExactFloats x = Bits.with(TWO, SIX);
            check.writes(call + ", a 2, b 6, to " + to, x, call.on(x, size, 0, 1, to), 0, to, first, false);
            x = Bits.with(0xC1C0L, TWO);
            check.writes(call + ", a -6, b 2, to " + to, x, call.on(x, size, 0, 1, to),
                    (second & 0x8000L) != 0 ? 8 : 0, to, second, call == Calls.QUOTIENT);
        }
    }

    /** Register 5 is a, b and to at once. */
    private void ofOneTwice(int size, Calls call, long due, int answer) {
        ExactFloats x = Bits.with(0, 0, 0, 0, 0, SIX);
        check.writes(call + " of 6 and itself, into itself", x, call.on(x, size, 5, 5, 5), answer, 5, due, false);
    }

    private void arithmetic(int size) {
        ofTwo("Promise 5: to is b + a", size, Calls.SUM, 0x4200L, 0xC180L);
        ofOneTwice(size, Calls.SUM, 0x4240L, 0);
        ofTwo("Promise 6: to is b - a", size, Calls.LESS, 0x4180L, 0x4200L);
        ofOneTwice(size, Calls.LESS, 0, 4);
        ofTwo("Promise 7: to is a * b", size, Calls.PRODUCT, 0x4240L, 0xC240L);
        ofOneTwice(size, Calls.PRODUCT, 0x4310L, 0);
        // 2 by -6 is -1/3.
        ofTwo("Promise 8: to is b by a", size, Calls.QUOTIENT, 0x4140L,
                size == 4 ? 0xAAAB_BFAAL : 0xAAAB_AAAA_AAAA_BFAAL);
        ofOneTwice(size, Calls.QUOTIENT, 0x4080L, 0);
    }

    private void negative(int size) {
        check.sentence("Promise 9: to is a with the other sign");
        long largest = size == 4 ? 0xFFFF_7FFFL : 0xFFFF_FFFF_FFFF_7FFFL;
        long[] floats = {SMALLEST, 0x4080L, SIX, size == 4 ? 0x1234_4123L : 0x1234_5678_9ABC_4123L, largest};
        for (long v : floats) {
            ExactFloats x = Bits.with(v, v | 0x8000L, -1L);
            x.under(true);
            String which = Long.toHexString(v);
            check.writes(which, x, x.negative(size, 0, 2), 8, 2, v | 0x8000L, false);
            check.writes(which + " below 0", x, x.negative(size, 1, 2), 0, 2, v, false);
            check.due("a stays", x.get(0), v);
            check.writes(which + ", into itself", x, x.negative(size, 0, 0), 8, 0, v | 0x8000L, false);
        }
        ExactFloats x = Bits.with(0, 0, -1L);
        x.under(true);
        check.writes("0", x, x.negative(size, 0, 2), 4, 2, 0, false);
    }

    private void compare(int size) {
        check.sentence("Promise 10: FLAGS 8 if a is less than b, 4 if they are alike");
        long largest = size == 4 ? 0xFFFF_7FFFL : 0xFFFF_FFFF_FFFF_7FFFL;
        long next = size == 4 ? 0x0001_0080L : 0x0001_0000_0000_0080L;
        // Each less than the one behind it.
        long[] rising = {largest | 0x8000L, 0xC100L, 0xC0FFL, 0xC080L, next | 0x8000L, 0x8080L, 0, SMALLEST, next,
            0x4000L, 0x4080L, 0x0001_4080L, 0x8000_4080L, 0x4081L, 0x40FFL, 0x4100L, 0x7F80L, largest};
        for (int i = 0; i < rising.length; i++) {
            for (int j = 0; j < rising.length; j++) {
                ExactFloats x = Bits.with(rising[i], rising[j]);
                x.under(true);
                check.due(i + " and " + j, x.compare(size, 0, 1), i < j ? 8 : i == j ? 4 : 0);
            }
        }
        ExactFloats x = Bits.with(TWO, SIX, 0x3F_0000_007FL);
        check.due("one with itself", x.compare(size, 1, 1), 4);
        check.due("a 0 with a fraction, and 0", x.compare(size, 2, 7), 4);
        check.due("a 0 with a fraction, and 2", x.compare(size, 2, 0), 8);
        check.due("2 and a 0 with a fraction", x.compare(size, 0, 2), 0);
        check.refuses("what is compared stays", x, 8, () -> x.compare(size, 0, 1));
    }

    private void change() {
        check.sentence("Promise 11: to (of the other size) is a of this size");
        long[][] rows = {
            // size, a, what is due, its answer, whether it is lost
            {4, 0x1234_4123L, 0x1234_4123L, 0, 0},
            {4, 0x5678_9ABC_1234_C123L, 0x1234_C123L, 8, 0},
            {8, 0x1234_4123L, 0x1234_4123L, 0, 0},
            {8, 0x0000_7FFF_1234_C123L, 0x1234_C123L, 8, 1},
            {8, 0x0000_8000_1234_C123L, 0x1235_C123L, 8, 1},
            {4, 0xFFFF_8000_1234_C123L, 0x1234_C123L, 8, 0},
            {8, 0x0001_0000_0000_0080L, 0x0080L, 0, 1},
            {4, 0xFFFF_FFFF_FFFF_7FFFL, 0xFFFF_7FFFL, 0, 0},
            {8, 0xFFFF_FFFF_FFFF_007FL, 0, 4, 0},
            {4, 0xFFFF_FFFF_FFFF_007FL, 0, 4, 0},
        };
        for (long[] row : rows) {
            String which = "change " + row[0] + ", " + Long.toHexString(row[1]);
            ExactFloats x = Bits.with(row[1], -1L);
            x.under(true);
            int size = (int) row[0];
            check.writes(which, x, x.change(size, 0, 1), (int) row[3], 1, row[2], row[4] == 1);
            check.due("a stays", x.get(0), row[1]);
            check.writes(which + ", into itself", x, x.change(size, 0, 0), (int) row[3], 0, row[2], row[4] == 1);
        }
    }

    private void number() {
        check.sentence("Promise 13: to is v");
        long[][] rows = {
            // v, of size 4, whether that is lost, of size 8
            {0, 0, 0, 0},
            {1, 0x4080L, 0, 0x4080L},
            {-1, 0xC080L, 0, 0xC080L},
            {127, 0x43FEL, 0, 0x43FEL},
            {-100, 0xC3C8L, 0, 0xC3C8L},
            {16777215, 0xFFFF_4C7FL, 0, 0xFFFF_4C7FL},
            {16777216, 0x4C80L, 0, 0x4C80L},
            {-16777217, 0x0001_CC80L, 1, 0x8000_0000_CC80L},
            {33554433, 0x4D00L, 1, 0x4000_0000_4D00L},
            {Integer.MAX_VALUE, 0x5000L, 1, 0xFE00_FFFF_4FFFL},
            {-Integer.MAX_VALUE, 0xD000L, 1, 0xFE00_FFFF_CFFFL},
            {Integer.MIN_VALUE, 0xD000L, 0, 0xD000L},
        };
        for (long[] row : rows) {
            int v = (int) row[0];
            int answer = v < 0 ? 8 : v == 0 ? 4 : 0;
            ExactFloats x = Bits.with(-1L, 0x8000L);
            x.under(true);
            check.writes("number(4, " + v + ")", x, x.number(4, v, 0), answer, 0, row[1], row[2] == 1);
            check.writes("number(8, " + v + ")", x, x.number(8, v, 1), answer, 1, row[3], false);
        }
    }

    /** One that has written a float last which is exact, or is not. */
    private static ExactFloats behind(boolean lost) {
        ExactFloats x = Bits.with(TWO, SIX, SMALLEST, 0xFFFF_FFFF_FFFF_7FFFL, 0x8000L, 0x4080L);
        x.number(4, lost ? 16777217 : 16777216, 7);
        return x;
    }

    private void lostByEach(int size, boolean before) {
        check.sentence("Promise 14: Whether the float that was written last is not the exact result");
        for (Calls call : Calls.OF_TWO) {
            ExactFloats x = behind(before);
            call.on(x, size, 0, 1, 6);
            check.due(call + " that is exact", x.lost(), false);
        }
        ExactFloats x = behind(before);
        x.sum(size, 2, 5, 6);
        check.due("SUM that is not", x.lost(), true);
        x = behind(before);
        x.less(size, 2, 5, 6);
        check.due("LESS that is not", x.lost(), true);
        x = behind(before);
        x.product(size, 2, 2, 6);
        check.due("PRODUCT that is too small", x.lost(), true);
        x = behind(before);
        x.quotient(size, 1, 5, 6);
        check.due("QUOTIENT that is not", x.lost(), true);
        x = behind(before);
        x.negative(size, 0, 6);
        check.due("NEGATIVE", x.lost(), false);
        x = behind(before);
        x.change(size, 0, 6);
        check.due("CHANGE that is exact", x.lost(), false);
        x = behind(before);
        x.set(6, 0x0001_0000_0000_4080L);
        x.change(8, 6, 6);
        check.due("CHANGE that is not", x.lost(), true);
        x = behind(before);
        x.number(size, 0, 6);
        check.due("NUMBER that is exact", x.lost(), false);
        x = behind(before);
        x.number(4, -33554433, 6);
        check.due("NUMBER that is not", x.lost(), true);
        x = behind(before);
        x.product(size, 0, 7, 0);
        x.product(size, 0, 5, 7);
        check.due("two that are exact, of what was not", x.lost(), false);
    }

    private void notByOthers(int size, boolean before) {
        check.sentence("Promise 14: (by all but set() and whole())");
        ExactFloats x = behind(before);
        x.set(7, 5);
        check.due("behind set", x.lost(), before);
        x.set(8, 5);
        check.due("behind set of none", x.lost(), before);
        x.whole(size, 0, 4, false, 7);
        check.due("behind whole", x.lost(), before);
        x.set(6, 0x40C0L);
        x.whole(size, 6, 4, true, 7);
        check.due("behind whole that cuts off", x.lost(), before);
        x.whole(size, 3, 1, false, 7);
        check.due("behind whole that is another one", x.lost(), before);
        x.compare(size, 0, 1);
        check.due("behind compare", x.lost(), before);
        x.get(0);
        x.under(true);
        x.lost();
        check.due("behind get, under and lost", x.lost(), before);
        check.sentence("Promise 14: the float that was written last (a refused call writes none)");
        check.due("-3", x.product(size, 2, 2, 7), -3);
        check.due("behind -3", x.lost(), before);
        check.due("-2", x.product(size, 3, 3, 7), -2);
        check.due("behind -2", x.lost(), before);
        x.set(6, 0);
        check.due("-4", x.quotient(size, 6, 0, 7), -4);
        check.due("behind -4", x.lost(), before);
        check.due("-1", x.negative(size, 4, 7), -1);
        check.due("behind -1", x.lost(), before);
        check.due("-5", x.number(5, 1, 7), -5);
        check.due("behind -5", x.lost(), before);
    }

    public static void main(String[] args) {
        Check check = new Check();
        PromiseSentencesTest test = new PromiseSentencesTest(check);
        test.newObject();
        test.set();
        test.get();
        for (int size = 4; size <= 8; size += 4) {
            test.under(size);
            test.arithmetic(size);
            test.negative(size);
            test.compare(size);
            test.lostByEach(size, false);
            test.lostByEach(size, true);
            test.notByOthers(size, false);
            test.notByOthers(size, true);
        }
        test.change();
        test.number();
        check.end();
    }
}
