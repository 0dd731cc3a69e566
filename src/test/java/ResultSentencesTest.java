/** The document's 'Terms', RESULTS: a test for each sentence, the floats written out for both sizes. */
public final class ResultSentencesTest {
    private static final long SIGN = 0x8000L;
    private static final long ONE = 0x4080L;
    private static final long SMALLEST = 0x0080L;

    private final Check check;
    private final int size;

    private ResultSentencesTest(Check check, int size) {
        this.check = check;
        this.size = size;
    }

    private long either(long ofSize4, long ofSize8) {
        return size == 4 ? ofSize4 : ofSize8;
    }

    /** Looks at a call with a and b, then with a's, b's and both signs turned. */
    private void due(Calls call, long a, long b, long result, boolean lost) {
        for (int signs = 0; signs < 4; signs++) {
            boolean minusA = (signs & 1) != 0;
            boolean minusB = (signs & 2) != 0;
            boolean product = call == Calls.PRODUCT || call == Calls.QUOTIENT;
            if (!product && minusA != minusB) {
                continue;
            }
            boolean below = (product ? minusA != minusB : minusA) && result != 0;
            ExactFloats x = Bits.with(minusA ? a | SIGN : a, minusB ? b | SIGN : b, -1L);
            String which = call + " of size " + size + ", signs " + signs;
            check.writes(which, x, call.on(x, size, 0, 1, 2), below ? 8 : result == 0 ? 4 : 0, 2,
                    below ? result | SIGN : result, lost);
        }
    }

    /** b - a, with a below 0: the sum once more, by less. */
    private void dueSum(long a, long b, long result, boolean lost) {
        due(Calls.SUM, a, b, result, lost);
        due(Calls.SUM, b, a, result, lost);
        ExactFloats x = Bits.with(a | SIGN, b, a, b | SIGN);
        check.writes("LESS of size " + size, x, x.less(size, 0, 1, 5), 0, 5, result, lost);
        check.writes("LESS below 0", x, x.less(size, 2, 3, 5), 8, 5, result | SIGN, lost);
    }

    /** b - a, both of them above 0. */
    private void dueLess(long a, long b, long result, boolean lost) {
        due(Calls.LESS, a, b, result, lost);
        ExactFloats x = Bits.with(a, b | SIGN, a | SIGN, b);
        check.writes("SUM below 0", x, x.sum(size, 0, 1, 5), 8, 5, result | SIGN, lost);
        check.writes("SUM turned", x, x.sum(size, 3, 2, 5), 0, 5, result, lost);
    }

    private void overflows(Calls call, long a, long b) {
        for (int signs = 0; signs < 4; signs++) {
            ExactFloats x = Bits.with((signs & 1) != 0 ? a | SIGN : a, (signs & 2) != 0 ? b | SIGN : b);
            boolean alike = signs == 0 || signs == 3;
            boolean product = call == Calls.PRODUCT || call == Calls.QUOTIENT;
            if (product || alike == (call == Calls.SUM)) {
                check.refuses(call + " of size " + size + ", signs " + signs, x, -2, () -> call.on(x, size, 0, 1, 2));
            }
        }
    }

    /** Not asked for, it is 0 and lost; asked for, it is refused. */
    private void underflows(Calls call, long a, long b) {
        for (int signs = 0; signs < 4; signs++) {
            long first = (signs & 1) != 0 ? a | SIGN : a;
            long second = (signs & 2) != 0 ? b | SIGN : b;
            boolean alike = signs == 0 || signs == 3;
            boolean product = call == Calls.PRODUCT || call == Calls.QUOTIENT;
            if (product || alike == (call == Calls.LESS)) {
                String which = call + " of size " + size + ", signs " + signs;
                ExactFloats x = Bits.with(first, second, -1L);
                check.writes(which, x, call.on(x, size, 0, 1, 2), 4, 2, 0, true);
                ExactFloats asked = Bits.with(first, second, -1L);
                asked.under(true);
                check.refuses(which + ", asked for", asked, -3, () -> call.on(asked, size, 0, 1, 2));
            }
        }
    }

    /** What stands far behind the last place still decides. */
    private void exact() {
        check.sentence("RESULTS are exact numbers");
        dueLess(SMALLEST, ONE, ONE, true);
        dueSum(SMALLEST, ONE, ONE, true);
        // 1 - (a quarter of the last place and a bit more) is nearer to what is below 1.
        dueLess(either(0x0001_3400L, 0x0001_0000_0000_2400L), ONE, either(0xFFFF_407FL, 0xFFFF_FFFF_FFFF_407FL), true);
        // Products and quotients a last bit off the middle between two floats.
        due(Calls.PRODUCT, either(0x3039_4080L, 0x3039_0000_0000_4080L), either(0x41F7_40EBL, 0x41F7_AA2B_7B82_40DCL),
                either(0x9A98_40EBL, 0x9507_AA2B_7B82_40DCL), true);
        due(Calls.PRODUCT, either(0x3039_4080L, 0x3039_0000_0000_4080L), either(0xBE09_4094L, 0xBE09_55D4_847D_40A3L),
                either(0xF613_4094L, 0xFBA4_55D4_847D_40A3L), true);
        due(Calls.QUOTIENT, either(0x03E9_4080L, 0x03E9_0000_0000_4080L), either(0x8864_40CBL, 0x87FA_5B0B_F43C_40BDL),
                either(0x822C_40CBL, 0x822C_5B0B_F43C_40BDL), true);
        due(Calls.QUOTIENT, either(0x03E9_4080L, 0x03E9_0000_0000_4080L), either(0x8357_40B4L, 0x83C1_A4F4_0BC3_40C2L),
                either(0x7DD4_40B4L, 0x7DD4_A4F4_0BC3_40C2L), true);
    }

    private void exactProducts() {
        check.sentence("RESULTS are exact numbers");
        // A last bit above and below a float.
        due(Calls.PRODUCT, either(0x303D_40C0L, 0x303B_0000_0000_40C0L),
                either(0xE715_40D9L, 0x28F3_154B_B927_40BAL),
                either(0x965F_4123L, 0x81E4_4FF8_0ADD_410CL), true);
        due(Calls.PRODUCT, either(0x3039_40C0L, 0x3041_0000_0000_40C0L),
                either(0x41F7_40EBL, 0x203F_FEEC_7333_40C9L),
                either(0x9DCA_4130L, 0x3E28_FF31_1666_4117L), true);
        // Two last bits above one, and some that lie further apart.
        due(Calls.PRODUCT, either(0x303D_40C0L, 0x3047_0000_0000_40C0L),
                either(0xCE2A_40B3L, 0xF2EE_6450_21C3_40CEL),
                either(0xFC81_4106L, 0xDD12_8B3C_9952_411AL), true);
        due(Calls.PRODUCT, either(0x3041_40C0L, 0x3039_0000_0000_40C0L),
                either(0xDFC1_40D5L, 0xBE09_55D4_847D_40B5L),
                either(0x9021_4120L, 0xB0B8_005F_235E_4108L), true);
        // A last bit below and above the middle of two.
        due(Calls.PRODUCT, either(0x303B_40C0L, 0x3039_0000_0000_40C0L),
                either(0xD70D_40F4L, 0x41F7_AA2B_7B82_40DCL),
                either(0xCF6A_4137L, 0x9B01_FFA0_5CA1_4125L), true);
        due(Calls.PRODUCT, either(0x3041_40C0L, 0x3041_0000_0000_40C0L),
                either(0xDFC1_40D3L, 0xDFC1_0113_8CCC_40B6L),
                either(0x0FC1_411FL, 0x0A3A_00CF_E999_4108L), true);
        // The square of the float below 1: all of its bits take part.
        due(Calls.PRODUCT, either(0xFFFF_407FL, 0xFFFF_FFFF_FFFF_407FL),
                either(0xFFFF_407FL, 0xFFFF_FFFF_FFFF_407FL),
                either(0xFFFE_407FL, 0xFFFE_FFFF_FFFF_407FL), true);
    }

    private void exactQuotients() {
        check.sentence("RESULTS are exact numbers");
        // The rest of the division is 1, or the divisor less 1.
        due(Calls.QUOTIENT, either(0x5C7F_408CL, 0x902B_892F_18E8_4098L),
                either(0x5975_40A7L, 0x6D08_FB2D_6D98_40BAL),
                either(0x9C81_4098L, 0x517D_57FB_E444_409CL), true);
        due(Calls.QUOTIENT, either(0x9E0D_40A6L, 0xA451_A6A3_5C7F_408CL),
                either(0x8B23_40E7L, 0x6690_F73F_44AB_4097L),
                either(0xE0C5_40B1L, 0x24B1_B9C0_F245_4089L), true);
        // The rest is about a hundredth of the divisor.
        due(Calls.QUOTIENT, either(0xC8FB_40DBL, 0x7C45_9F76_64D8_40C1L),
                either(0x6139_40F5L, 0x05B5_0043_7D5D_40F7L),
                either(0xE7F1_408EL, 0x9A96_EF49_CDCC_40A3L), true);
    }

    /** However far the smaller one's bits lie behind the larger one's. */
    private void exactSums() {
        check.sentence("RESULTS are exact numbers");
        int places = size == 4 ? 24 : 56;
        for (int e = 1; e < 127 - places; e++) {
            // 2 ^ (e - 129), and that and a half.
            dueSum(e * 128L, ONE, ONE, true);
            dueSum(e * 128L | 0x40L, ONE, ONE, true);
            dueLess(e * 128L, ONE, ONE, true);
            dueLess(e * 128L | 0x40L, ONE, ONE, true);
        }
        // 2 less the last place of 1, and that place and the least bit more: the sum is 2 and that bit.
        dueSum(either(0x0001_3500L, 0x0001_0000_0000_2500L), either(0xFFFF_40FFL, 0xFFFF_FFFF_FFFF_40FFL), 0x4100L, true);
    }

    private void firstIsOne() {
        check.sentence("rounded to 24 (56) bits behind the point, the first of them 1");
        // (1 + the last place) - 1 is 2 ^ -23 or 2 ^ -55.
        dueLess(ONE, either(0x0001_4080L, 0x0001_0000_0000_4080L), either(0x3500L, 0x2500L), false);
        // 1 - (1 - half of that place).
        dueLess(either(0xFFFF_407FL, 0xFFFF_FFFF_FFFF_407FL), ONE, either(0x3480L, 0x2480L), false);
        // 1 by 3 begins behind two places that are 0.
        due(Calls.QUOTIENT, 0x4140L, ONE, either(0xAAAB_3FAAL, 0xAAAB_AAAA_AAAA_3FAAL), true);
        // 3/4 * 5/8 is 15/32: one place.
        due(Calls.PRODUCT, 0x4040L, 0x4020L, 0x3FF0L, false);
        // The largest number that has 24 bits, and one of 25.
        ExactFloats x = new ExactFloats();
        check.writes("number 16777215", x, x.number(size, 16777215, 0), 0, 0, 0xFFFF_4C7FL, false);
        check.writes("number 16777217", x, x.number(size, 16777217, 0), 0, 0,
                either(0x0001_4C80L, 0x0000_8000_0000_4C80L), size == 4);
    }

    private void nearest() {
        check.sentence("the nearest one");
        // 1 + a bit less, and a bit more, than half of the last place.
        dueSum(either(0xFFFF_347FL, 0xFFFF_FFFF_FFFF_247FL), ONE, ONE, true);
        dueSum(either(0x0001_3480L, 0x0001_0000_0000_2480L), ONE, either(0x0001_4080L, 0x0001_0000_0000_4080L), true);
        // 1 - a bit less than a quarter of it: below 1 the floats lie closer.
        dueLess(either(0xFFFF_33FFL, 0xFFFF_FFFF_FFFF_23FFL), ONE, ONE, true);
        // 1 - half of it is a float.
        dueLess(either(0x3480L, 0x2480L), ONE, either(0xFFFF_407FL, 0xFFFF_FFFF_FFFF_407FL), false);
        // The square of 1 + the last place.
        due(Calls.PRODUCT, either(0x0001_4080L, 0x0001_0000_0000_4080L), either(0x0001_4080L, 0x0001_0000_0000_4080L),
                either(0x0002_4080L, 0x0002_0000_0000_4080L), true);
    }

    private void alike() {
        check.sentence("of two alike the one away from 0");
        // 1 + half of the last place; the same above an odd last place; 1 - a quarter of it.
        dueSum(either(0x3480L, 0x2480L), ONE, either(0x0001_4080L, 0x0001_0000_0000_4080L), true);
        dueSum(either(0x3480L, 0x2480L), either(0x0001_4080L, 0x0001_0000_0000_4080L),
                either(0x0002_4080L, 0x0002_0000_0000_4080L), true);
        dueLess(either(0x3400L, 0x2400L), ONE, ONE, true);
        // The same below an odd last place of 2.
        dueLess(either(0x3500L, 0x2500L), either(0x0001_4100L, 0x0001_0000_0000_4100L),
                either(0x0001_4100L, 0x0001_0000_0000_4100L), true);
        // (1 + the last place) * 3/2.
        due(Calls.PRODUCT, either(0x0001_4080L, 0x0001_0000_0000_4080L), 0x40C0L,
                either(0x0002_40C0L, 0x0002_0000_0000_40C0L), true);
        if (size == 4) {
            ExactFloats x = new ExactFloats();
            check.writes("number 16777217", x, x.number(4, 16777217, 0), 0, 0, 0x0001_4C80L, true);
            check.writes("number -16777217", x, x.number(4, -16777217, 0), 8, 0, 0x0001_CC80L, true);
            check.writes("number 16777219", x, x.number(4, 16777219, 0), 0, 0, 0x0002_4C80L, true);
            check.writes("number -16777219", x, x.number(4, -16777219, 0), 8, 0, 0x0002_CC80L, true);
        }
    }

    /** No quotient is so near to a power of 2 that it is rounded up to it. */
    private void anotherE() {
        check.sentence("(2 ^ (e - 128) with another e, if it was rounded up to that)");
        // 2 - the last place of 1, and half of that place.
        dueSum(either(0x3480L, 0x2480L), either(0xFFFF_40FFL, 0xFFFF_FFFF_FFFF_40FFL), 0x4100L, true);
        // 2 ^ 25 - 1 and 2 ^ 57 - 1, each as a product.
        due(Calls.PRODUCT, either(0x8E00_4791L, 0xFFE0_49FFL), either(0x2000_45E1L, 0x2_0010_5380L),
                either(0x4D00L, 0x5D00L), true);
        if (size == 4) {
            ExactFloats x = new ExactFloats();
            check.writes("number 2147483647", x, x.number(4, 2147483647, 0), 0, 0, 0x5000L, true);
            check.writes("number -2147483647", x, x.number(4, -2147483647, 0), 8, 0, 0xD000L, true);
            check.writes("number 33554431", x, x.number(4, 33554431, 0), 0, 0, 0x4D00L, true);
        }
    }

    private void above255() {
        check.sentence("e above 255: OVERFLOW");
        // 2 ^ 126 has the e 255, 2 ^ 127 would have 256.
        overflows(Calls.SUM, 0x7F80L, 0x7F80L);
        overflows(Calls.LESS, 0x7F80L, 0x7F80L);
        dueSum(0x7F00L, 0x7F00L, 0x7F80L, false);
        overflows(Calls.PRODUCT, 0x6080L, 0x6000L);
        due(Calls.PRODUCT, 0x6080L, 0x5F80L, 0x7F80L, false);
        overflows(Calls.QUOTIENT, 0x4000L, 0x7F80L);
        due(Calls.QUOTIENT, 0x4000L, 0x7F00L, 0x7F80L, false);
        long largest = either(0xFFFF_7FFFL, 0xFFFF_FFFF_FFFF_7FFFL);
        overflows(Calls.SUM, largest, largest);
        overflows(Calls.LESS, largest, largest);
        overflows(Calls.PRODUCT, largest, largest);
        overflows(Calls.QUOTIENT, SMALLEST, largest);
        due(Calls.PRODUCT, ONE, largest, largest, false);
        due(Calls.QUOTIENT, ONE, largest, largest, false);
        dueSum(SMALLEST, largest, largest, true);
    }

    private void below1() {
        check.sentence("below 1: 0, or UNDERFLOW if that is asked for");
        // 2 ^ -128 has the e 1, 2 ^ -129 would have 0.
        underflows(Calls.PRODUCT, 0x2080L, 0x2000L);
        due(Calls.PRODUCT, 0x2080L, 0x2080L, SMALLEST, false);
        underflows(Calls.QUOTIENT, 0x4100L, SMALLEST);
        due(Calls.QUOTIENT, ONE, SMALLEST, SMALLEST, false);
        underflows(Calls.LESS, SMALLEST, 0x00C0L);
        underflows(Calls.SUM, SMALLEST, 0x00C0L);
        dueLess(SMALLEST, 0x0100L, SMALLEST, false);
        // The least difference that there is, and the least product and quotient.
        long next = either(0x0001_0080L, 0x0001_0000_0000_0080L);
        underflows(Calls.LESS, next, SMALLEST);
        underflows(Calls.SUM, next, SMALLEST);
        underflows(Calls.PRODUCT, SMALLEST, SMALLEST);
        underflows(Calls.QUOTIENT, either(0xFFFF_7FFFL, 0xFFFF_FFFF_FFFF_7FFFL), SMALLEST);
        dueWhileAsked(Calls.PRODUCT, 0x2080L, 0x2080L, SMALLEST, 0);
        dueWhileAsked(Calls.LESS, SMALLEST, SMALLEST, 0, 4);
        dueWhileAsked(Calls.PRODUCT, 0, SMALLEST, 0, 4);
        dueWhileAsked(Calls.QUOTIENT, SMALLEST, 0, 0, 4);
    }

    /** An exact 0, and what is not below e 1, is no UNDERFLOW. */
    private void dueWhileAsked(Calls call, long a, long b, long result, int answer) {
        ExactFloats x = Bits.with(a, b, -1L);
        x.under(true);
        check.writes(call + " of size " + size + ", UNDERFLOW asked for", x, call.on(x, size, 0, 1, 2), answer, 2, result,
                false);
    }

    private void behindTheRounding() {
        check.sentence("(e as it is behind the rounding.)");
        long largest = either(0xFFFF_7FFFL, 0xFFFF_FFFF_FFFF_7FFFL);
        // Half of the largest's last place more, and a bit less than that.
        long half = either(0x7380L, 0x6380L);
        long less = either(0xFFFF_737FL, 0xFFFF_FFFF_FFFF_637FL);
        overflows(Calls.SUM, half, largest);
        overflows(Calls.LESS, half, largest);
        dueSum(less, largest, largest, true);
        // 2 ^ 127 - half a place, and - a quarter of one, are rounded up; - a whole one is exact.
        overflows(Calls.PRODUCT, either(0x8E00_6091L, 0xFFE0_5B7FL), either(0x2000_5FE1L, 0x2_0010_6500L));
        overflows(Calls.PRODUCT, either(0x0400_6080L, 0x0400_0000_6080L), either(0xF800_5FFFL, 0xF800_FFFF_5FFFL));
        due(Calls.PRODUCT, either(0x0800_6080L, 0x0800_0000_6080L), either(0xF000_5FFFL, 0xF000_FFFF_5FFFL), largest,
                false);
        // The same of 2 ^ -128: what is rounded up to it has the e 1.
        roundedUpToSmallest(either(0x8E00_2191L, 0xFFE0_1BFFL), either(0x2000_1F61L, 0x2_0010_2500L));
        roundedUpToSmallest(either(0x0400_2080L, 0x0400_0000_2080L), either(0xF800_207FL, 0xF800_FFFF_207FL));
        underflows(Calls.PRODUCT, either(0x0800_2080L, 0x0800_0000_2080L), either(0xF000_207FL, 0xF000_FFFF_207FL));
    }

    private void roundedUpToSmallest(long a, long b) {
        due(Calls.PRODUCT, a, b, SMALLEST, true);
        ExactFloats x = Bits.with(a, b | SIGN);
        x.under(true);
        check.writes("rounded up to -2 ^ -128, size " + size, x, x.product(size, 0, 1, 2), 8, 2, 0x8080L, true);
    }

    /** Size 8 to size 4 is rounded as all results are. */
    private static void change(Check check) {
        long[][] rows = {
            // a, what is due for it, whether it is lost
            {0x0000_8000_0000_4080L, 0x0001_4080L, 1},
            {0xFFFF_7FFF_0000_4080L, 0x4080L, 1},
            {0x0001_8000_0000_4080L, 0x0001_4080L, 1},
            {0x0000_8000_0001_4080L, 0x0002_4080L, 1},
            {0x0001_0000_0000_4080L, 0x4080L, 1},
            {0x0000_8000_FFFF_40FFL, 0x4100L, 1},
            {0xFFFF_7FFF_FFFF_40FFL, 0xFFFF_40FFL, 1},
            {0xFFFF_7FFF_FFFF_7FFFL, 0xFFFF_7FFFL, 1},
            {0x0000_0000_FFFF_7FFFL, 0xFFFF_7FFFL, 0},
            {0x0000_8000_0000_0080L, 0x0001_0080L, 1},
            {0xFFFF_7FFF_0000_0080L, 0x0080L, 1},
            {0x0000_0000_0000_0080L, 0x0080L, 0},
        };
        for (long[] row : rows) {
            check.sentence("the nearest one, of two alike the one away from 0 (2 ^ (e - 128) with another e, ..)");
            String which = "change " + Long.toHexString(row[0]);
            ExactFloats x = Bits.with(row[0], row[0] | SIGN, -1L);
            x.under(true);
            check.writes(which, x, x.change(8, 0, 2), 0, 2, row[1], row[2] == 1);
            check.writes(which + " below 0", x, x.change(8, 1, 2), 8, 2, row[1] | SIGN, row[2] == 1);
        }
        check.sentence("e above 255: OVERFLOW .. (e as it is behind the rounding.)");
        long[] over = {0x0000_8000_FFFF_7FFFL, 0x0001_8000_FFFF_7FFFL, 0xFFFF_FFFF_FFFF_7FFFL};
        for (long bits : over) {
            ExactFloats x = Bits.with(bits, bits | SIGN);
            check.refuses("change " + Long.toHexString(bits), x, -2, () -> x.change(8, 0, 2));
            check.refuses("change " + Long.toHexString(bits) + " below 0", x, -2, () -> x.change(8, 1, 1));
        }
    }

    public static void main(String[] args) {
        Check check = new Check();
        for (int size = 4; size <= 8; size += 4) {
            ResultSentencesTest test = new ResultSentencesTest(check, size);
            test.exact();
            test.exactProducts();
            test.exactQuotients();
            test.exactSums();
            test.firstIsOne();
            test.nearest();
            test.alike();
            test.anotherE();
            test.above255();
            test.below1();
            test.behindTheRounding();
        }
        change(check);
        check.end();
    }
}
