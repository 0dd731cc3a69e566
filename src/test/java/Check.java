import java.util.function.IntSupplier;

/** Counts the answers that are not as due, prints them, and ends a test with exit code 1 if there was one. */
final class Check {
    private int wrong = 0;
    private int looked = 0;
    private String quoted = "";

    /** What is looked at from now on tests this sentence of the document. */
    void sentence(String words) {
        quoted = "'" + words + "': ";
    }

    void due(String call, long got, long want) {
        looked++;
        if (got != want) {
            wrong++;
            if (wrong <= 50) {
                System.out.println("  " + quoted + call + " answered " + got + " (" + Long.toHexString(got) + "), due is "
                        + want + " (" + Long.toHexString(want) + ")");
            }
        }
    }

    void due(String call, boolean got, boolean want) {
        due(call, got ? 1 : 0, want ? 1 : 0);
    }

    /** Looks at a call that writes a float: its answer, what is in the register, and lost(). */
    void writes(String call, ExactFloats x, int answer, int want, int to, long bits, boolean lost) {
        due(call, answer, want);
        due(call + ": get(" + to + ")", x.get(to), bits);
        due(call + ": lost()", x.lost(), lost);
    }

    /** Looks at a call that must answer below 0 and change nothing. */
    void refuses(String call, ExactFloats x, int want, IntSupplier made) {
        long[] before = state(x);
        due(call, made.getAsInt(), want);
        long[] after = state(x);
        for (int i = 0; i < before.length; i++) {
            due(call + ": state " + i + " behind it", after[i], before[i]);
        }
    }

    private static long[] state(ExactFloats x) {
        long[] all = new long[9];
        for (int r = 0; r < 8; r++) {
            all[r] = x.get(r);
        }
        all[8] = x.lost() ? 1 : 0;
        return all;
    }

    void end() {
        if (looked == 0) {
            System.out.println("  nothing was looked at");
            System.exit(1);
        }
        if (wrong != 0) {
            System.out.println("  " + wrong + " of " + looked + " answers are not as due");
            System.exit(1);
        }
    }
}
