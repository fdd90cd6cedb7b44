/** Compares answers with the ones that are due, and ends the program with 1 if one was wrong. */
final class Due {
    /** One fault can make millions of answers wrong: the first ones tell enough. */
    private static final int MOST_TOLD = 100;

    private int checked = 0;
    private int wrong = 0;

    void is(String call, long got, long want) {
        checked++;
        if (got != want) {
            wrong++;
            if (wrong <= MOST_TOLD) {
                System.out.println(call + " answered " + got + ", due is " + want);
            }
        }
    }

    /** An answer together with the STATUS that the call leaves. */
    void is(String call, LampLoft desk, int got, int want, int status) {
        is(call, got, want);
        is(call + ", status()", desk.status(), status);
    }

    /** A count() and, behind it, the same one again: asking must change nothing. */
    void counts(String when, LampLoft desk, int what, int want) {
        int statusBefore = desk.status();
        is(when + ", count(" + what + ")", desk.count(what), want);
        is(when + ", count(" + what + ") again", desk.count(what), want);
        is(when + ", status() behind count(" + what + ")", desk.status(), statusBefore);
    }

    void finish() {
        if (wrong != 0) {
            System.out.println(wrong + " of " + checked + " answers are not as due");
            System.exit(1);
        }
        System.out.println("all " + checked + " answers are as due");
    }
}
