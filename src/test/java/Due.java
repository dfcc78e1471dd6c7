/** Counts the answers of one test: those that are as due, and the others, which it tells. */
final class Due {
    private final String test;
    private int right;
    private int wrong;

    Due(String test) {
        this.test = test;
    }

    void is(String call, long got, long want) {
        if (got == want) {
            right++;
            return;
        }
        wrong++;
        if (wrong <= 30) {
            System.out.println(test + ": " + call + " answered " + got + ", due is " + want);
        }
    }

    void holds(String what, boolean so) {
        is(what, so ? 1 : 0, 1);
    }

    /** Each call, with the answer that is due behind it. */
    void are(String calls, long[] got, long... want) {
        is(calls + ": how many", got.length, want.length);
        for (int i = 0; i < Math.min(got.length, want.length); i++) {
            is(calls + " [" + i + "]", got[i], want[i]);
        }
    }

    void end() {
        System.out.println(test + ": " + right + " as due, " + wrong + " not");
        if (wrong != 0 || right == 0) {
            System.exit(1);
        }
    }
}
