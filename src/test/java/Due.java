/** Counts what a test found, and tells each answer that is not the one that is due. */
final class Due {
    private final String what;
    private int asked;
    private int wrong;

    Due(String what) {
        this.what = what;
    }

    void is(String call, long got, long want) {
        asked++;
        if (got != want) {
            wrong++;
            if (wrong <= 40) {
                System.out.println(what + ": " + call + " answered " + got + ", due is " + want);
            }
        }
    }

    void yes(String claim, boolean holds) {
        is(claim, holds ? 1 : 0, 1);
    }

    /** Ends the test's program with 1 if an answer was wrong. */
    void end() {
        System.out.println(what + ": " + (asked - wrong) + " of " + asked + " answers are as due");
        if (wrong > 0) {
            System.exit(1);
        }
    }
}
