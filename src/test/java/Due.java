/** Holds each answer against the one that is due, and tells those that are not. */
final class Due {
    private int wrong = 0;
    private int held = 0;

    void is(String call, long got, long want) {
        held++;
        if (got != want) {
            wrong++;
            System.out.println(call + " answered " + got + ", due is " + want);
        }
    }

    void all(String calls, long[] got, long... want) {
        is(calls + ", how many", got.length, want.length);
        for (int i = 0; i < got.length && i < want.length; i++) {
            is(calls + ", number " + i, got[i], want[i]);
        }
    }

    void holds(String what, boolean so) {
        is(what, so ? 1 : 0, 1);
    }

    int wrong() {
        return wrong;
    }

    /** The end of a test: exit code 1 if an answer was not as due. */
    void end() {
        System.out.println(wrong == 0 ? held + " answers are as due" : wrong + " of " + held + " answers are not as due");
        if (wrong != 0) {
            System.exit(1);
        }
    }
}
