/** The calls that work something out, in one form, so that a sentence can be tested on all of them. */
enum Calls {
    SUM, LESS, PRODUCT, QUOTIENT, NEGATIVE, CHANGE, COMPARE, WHOLE, NUMBER;

    static final Calls[] OF_TWO = {SUM, LESS, PRODUCT, QUOTIENT};
    static final Calls[] OF_ONE = {NEGATIVE, CHANGE, WHOLE};

    /** Leaves out what the call does not take; WHOLE is of 4 bytes, NUMBER of 3. */
    int on(ExactFloats x, int size, int a, int b, int to) {
        return switch (this) {
            case SUM -> x.sum(size, a, b, to);
            case LESS -> x.less(size, a, b, to);
            case PRODUCT -> x.product(size, a, b, to);
            case QUOTIENT -> x.quotient(size, a, b, to);
            case NEGATIVE -> x.negative(size, a, to);
            case CHANGE -> x.change(size, a, to);
            case COMPARE -> x.compare(size, a, b);
            case WHOLE -> x.whole(size, a, 4, false, to);
            case NUMBER -> x.number(size, 3, to);
        };
    }

    boolean takesA() {
        return this != NUMBER;
    }

    boolean takesB() {
        return this == SUM || this == LESS || this == PRODUCT || this == QUOTIENT || this == COMPARE;
    }

    boolean takesTo() {
        return this != COMPARE;
    }
}
