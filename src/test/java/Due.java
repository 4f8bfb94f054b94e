import java.util.ArrayList;
import java.util.List;

/** Holds each answer against the one that is due, and tells those that are not. */
final class Due {
    private final List<String> wrong = new ArrayList<>();
    private int held = 0;

    void is(String call, long got, long want) {
        held++;
        if (got != want) {
            wrong.add(call + " answered " + got + ", due is " + want);
        }
    }

    /** The same answer is due to many calls. */
    void each(String calls, long want, long... got) {
        for (int i = 0; i < got.length; i++) {
            is(calls + ", number " + i, got[i], want);
        }
    }

    void all(String calls, long[] got, long... want) {
        is(calls + ", how many", got.length, want.length);
        for (int i = 0; i < got.length && i < want.length; i++) {
            is(calls + ", number " + i, got[i], want[i]);
        }
    }

    void holds(String what, boolean so) {
        is(what, so ? 1 : 0, 1);
    }

    void add(String where, Due other) {
        held += other.held;
        for (String one : other.wrong) {
            wrong.add(where + one);
        }
    }

    int wrong() {
        return wrong.size();
    }

    int held() {
        return held;
    }

    /** The end of a test: exit code 1 if an answer was not as due. */
    void end() {
        for (String one : wrong) {
            System.out.println(one);
        }
        System.out.println(wrong.isEmpty() ? held + " answers are as due" : wrong.size() + " of " + held + " answers are not as due");
        if (!wrong.isEmpty()) {
            System.exit(1);
        }
    }
}
