/** The document's 'What it is': a test for each sentence. */
public final class WhatItIsSentencesTest {
    private static final int LAST = 512;
    private static final int KINDS = 13;

    private final Check check;
    private ExactFloats x;
    private int made;

    private WhatItIsSentencesTest(Check check) {
        this.check = check;
    }

    /** One call of each kind, with the answer that is due: register 0 is 2, 1 is 6, 2 is 0, 7 is written. */
    private void call(int kind) {
        made++;
        String which = "call " + made;
        switch (kind) {
            case 0 -> check.due(which + ", set", x.set(6, 99), true);
            case 1 -> check.due(which + ", get", x.get(1), 0x41C0L);
            case 2 -> x.under(false);
            case 3 -> check.due(which + ", sum", x.sum(4, 0, 1, 7), 0);
            case 4 -> check.due(which + ", less", x.less(8, 1, 0, 7), 8);
            case 5 -> check.due(which + ", product", x.product(8, 0, 2, 7), 4);
            case 6 -> check.due(which + ", quotient", x.quotient(4, 2, 2, 7), -4);
            case 7 -> check.due(which + ", negative", x.negative(4, 0, 7), 8);
            case 8 -> check.due(which + ", compare", x.compare(8, 0, 1), 8);
            case 9 -> check.due(which + ", change", x.change(4, 1, 7), 0);
            case 10 -> check.due(which + ", whole", x.whole(8, 1, 1, true, 7), 0);
            case 11 -> check.due(which + ", number", x.number(4, 16777217, 7), 0);
            default -> check.due(which + ", lost", x.lost(), false);
        }
    }

    private void start() {
        x = new ExactFloats();
        made = 0;
        set(0, 0x4100L);
        set(1, 0x41C0L);
    }

    private void set(int r, long v) {
        made++;
        check.due("call " + made + ", set", x.set(r, v), true);
    }

    private void upTo(int calls, int kind) {
        while (made < calls) {
            call(kind);
        }
    }

    /** The 512th call is still one of those that are promised. */
    private void eachKindAlone() {
        check.sentence("An object is used for at most 512 calls after it has been made");
        for (int kind = 0; kind < KINDS; kind++) {
            start();
            upTo(LAST, kind);
        }
    }

    /** 512 of one kind and nothing else, on an object whose registers are all 0. */
    private void eachKindFromTheFirst() {
        check.sentence("An object is used for at most 512 calls after it has been made");
        for (Calls call : Calls.values()) {
            int due = call == Calls.QUOTIENT ? -4 : call == Calls.NUMBER ? 0 : 4;
            ExactFloats fresh = new ExactFloats();
            for (int i = 1; i <= LAST; i++) {
                check.due("call " + i + ", " + call, call.on(fresh, 4 + i % 2 * 4, 1, 2, 3), due);
            }
        }
        ExactFloats set = new ExactFloats();
        ExactFloats get = new ExactFloats();
        ExactFloats lost = new ExactFloats();
        get.set(1, 99);
        for (int i = 1; i <= LAST; i++) {
            check.due("call " + i + ", set", set.set(i & 7, i), true);
            if (i > 1) {
                check.due("call " + i + ", get", get.get(1), 99);
            }
            check.due("call " + i + ", lost", lost.lost(), false);
        }
    }

    private void eachKindLast() {
        check.sentence("An object is used for at most 512 calls after it has been made");
        for (int kind = 0; kind < KINDS; kind++) {
            start();
            while (made < LAST - 2) {
                call(made % (KINDS - 2));
            }
            call(9);
            call(kind);
        }
    }

    /** What the 511th call wrote is what the 512th reads. */
    private void stateAtTheLast() {
        check.sentence("An object is used for at most 512 calls after it has been made");
        start();
        upTo(LAST - 2, 6);
        made++;
        check.due("call 511, quotient", x.quotient(4, 1, 0, 7), 0);
        made++;
        check.due("call 512, get", x.get(7), 0xAAAB3FAAL);
        start();
        upTo(LAST - 2, 3);
        made++;
        check.due("call 511, quotient", x.quotient(4, 1, 0, 7), 0);
        made++;
        check.due("call 512, lost", x.lost(), true);
        start();
        upTo(LAST - 1, 10);
        made++;
        check.due("call 512, get", x.get(7), 6);
    }

    /** Their answers are free, but even then no call throws. */
    private void later() {
        check.sentence("what later calls answer is free");
        start();
        for (int i = 0; i < 4 * LAST; i++) {
            x.set(i & 15, i * 0x123456789ABCDEFL);
            x.sum(4, i & 7, i >> 3 & 7, i >> 6 & 7);
            x.quotient(8, i & 7, i >> 3 & 7, i >> 6 & 7);
            x.whole(8, i & 7, 4, true, i >> 3 & 15);
        }
        check.due("calls that ended", 1, 1);
    }

    public static void main(String[] args) {
        Check check = new Check();
        WhatItIsSentencesTest test = new WhatItIsSentencesTest(check);
        test.eachKindAlone();
        test.eachKindFromTheFirst();
        test.eachKindLast();
        test.stateAtTheLast();
        test.later();
        check.end();
    }
}
