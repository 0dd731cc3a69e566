/** Promise 14: lost() tells of the float that was written last, by all but set() and whole(). */
public final class LostTest {
    private static ExactFloats lossy() {
        ExactFloats x = Bits.with(Bits.ONE, Bits.SMALLEST, Bits.RESERVED);
        x.sum(8, 0, 1, 7);
        return x;
    }

    private static void stays(Check check) {
        ExactFloats x = lossy();
        check.due("a sum", x.lost(), true);
        check.due("asked again", x.lost(), true);
        x.set(7, 5);
        check.due("behind set", x.lost(), true);
        x.whole(8, 0, 4, true, 7);
        check.due("behind whole", x.lost(), true);
        x.compare(8, 0, 1);
        check.due("behind compare", x.lost(), true);
        x.under(true);
        check.due("behind under", x.lost(), true);
        x.get(7);
        check.due("behind get", x.lost(), true);
        x.negative(8, 2, 3);
        check.due("behind a refusal", x.lost(), true);
        x.under(false);
        x.negative(8, 0, 3);
        check.due("behind one that is exact", x.lost(), false);
        x.set(3, Bits.of(128, 1));
        x.whole(8, 3, 1, true, 4);
        check.due("whole loses nothing", x.lost(), false);
        x.set(3, Bits.LARGEST_8);
        x.product(8, 3, 3, 4);
        check.due("nor does an OVERFLOW", x.lost(), false);
        x.under(true);
        x.product(8, 1, 1, 4);
        check.due("nor an UNDERFLOW that is asked for", x.lost(), false);
        x.under(false);
        x.product(8, 1, 1, 4);
        check.due("but one that is written as 0", x.lost(), true);
    }

    /** Each of the calls that write a float says so itself. */
    private static void cleared(Check check) {
        ExactFloats x = lossy();
        x.sum(8, 0, 0, 3);
        check.due("sum", x.lost(), false);
        x = lossy();
        x.less(8, 0, 0, 3);
        check.due("less", x.lost(), false);
        x = lossy();
        x.product(4, 0, 0, 3);
        check.due("product", x.lost(), false);
        x = lossy();
        x.quotient(4, 0, 1, 3);
        check.due("quotient", x.lost(), false);
        x = lossy();
        x.change(8, 0, 3);
        check.due("change", x.lost(), false);
        x = lossy();
        x.number(4, 77, 3);
        check.due("number", x.lost(), false);
        x = lossy();
        x.negative(4, 5, 5);
        check.due("negative of 0", x.lost(), false);
    }

    public static void main(String[] args) {
        Check check = new Check();
        stays(check);
        cleared(check);
        check.end();
    }
}
