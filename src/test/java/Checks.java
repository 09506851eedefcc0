/** Counts the checks that passed and failed, and prints each one that failed. */
final class Checks {
    private static final int PRINTED_AT_MOST = 60;

    private int passed;
    private int failed;

    void due(String what, long got, long want) {
        if (got == want) {
            passed++;
        } else {
            fail(what + " answered " + got + ", due is " + want);
        }
    }

    void yes(String what, boolean holds) {
        if (holds) {
            passed++;
        } else {
            fail(what);
        }
    }

    /** Answers of the calls with i = 0, 1, 2 .. in one row. */
    void row(String what, long[] got, long... want) {
        yes(what + " answered " + java.util.Arrays.toString(got) + ", due is "
                + java.util.Arrays.toString(want), java.util.Arrays.equals(got, want));
    }

    private void fail(String text) {
        failed++;
        if (failed <= PRINTED_AT_MOST) {
            System.out.println("FAILED " + text);
        }
    }

    int failed() {
        return failed;
    }

    int passed() {
        return passed;
    }
}
