/**
 * Refused calls change nothing: of two objects with the same past, one has the call refused; behind
 * that, all that can be asked of both is alike. Past, call and questions stay within 512 calls.
 */
final class Twins {
    interface Call {
        long on(WallCount x);
    }

    static final int MIN = Integer.MIN_VALUE, MAX = Integer.MAX_VALUE;

    private Twins() {
    }

    /** A past of every kind: a key, voters, a rule, signs, rows of all kinds, a copy, another CLOSE. */
    static WallCount some() {
        WallCount x = new WallCount();
        x.key(2, 17, 29, 31);
        say(x, "a>17&b=0");
        x.rule();
        say(x, "y>3");
        x.close(50);
        x.voter(1, 0, 17);
        x.voter(2, 1, 3);
        x.voter(3, 2, 1);
        x.cast(0, 1, 50, 1, 2, 3, 4);
        x.cast(0, 0, 49, 5, 6, 7, 8);
        x.cast(0, 1, 51, 9, 10, 11, 12);
        x.row(2, 4, 16, 10);
        x.cast(3, 1, 10, 13, 14, 15, 16);
        x.cast(2, 1, 10, 17, 18, 19, 20);
        x.copy(x.ofRow(0, 5));
        x.copy(77);
        return x;
    }

    /** All that can be full is full: signs, rows, copy. */
    static WallCount full() {
        WallCount x = new WallCount();
        x.key(2, 17, 29, 31);
        say(x, "a=30&a=30&a=30&a=30&a=30&a=30&a=30&a=30|");
        for (int i = 0; i < 30; i++) {
            x.cast(i % 12, i % 2, i, i, i + 1, i + 2, i + 3);
            x.copy(i);
        }
        return x;
    }

    static void say(WallCount x, String text) {
        for (int i = 0; i < text.length(); i++) {
            x.say(text.charAt(i));
        }
    }

    /** The call is refused with this answer, on a new object, and nothing has changed. */
    static void refusedNew(Due due, String what, long answer, Call call) {
        refused(due, what, answer, call, new WallCount(), new WallCount());
    }

    static void refusedSome(Due due, String what, long answer, Call call) {
        refused(due, what, answer, call, some(), some());
    }

    static void refusedFull(Due due, String what, long answer, Call call) {
        refused(due, what, answer, call, full(), full());
    }

    private static void refused(Due due, String what, long answer, Call call, WallCount x, WallCount twin) {
        due.is(what, call.on(x), answer);
        due.all(what + " changes nothing", all(x), all(twin));
    }

    /** Everything that the calls can tell; asking it uses the object up. */
    private static long[] all(WallCount x) {
        long[] told = new long[400];
        int n = 0;
        for (int what = 0; what < 15; what++) {
            told[n++] = x.count(what);
        }
        for (int i = 1; i <= 5; i++) {
            told[n++] = x.holder(i, 0);
        }
        told[n++] = x.seal(1, 1, 1);
        int rows = x.count(0);
        for (int row = 0; row < rows; row++) {
            for (int what = 0; what < 7; what++) {
                told[n++] = x.ofRow(row, what);
            }
        }
        for (int what = 0; what < 3; what++) {
            told[n++] = x.tally(what);
        }
        told[n++] = x.parted();
        for (int voter = 0; voter < 12; voter++) {
            told[n++] = x.may(voter);
        }
        told[n++] = x.fault();
        told[n++] = x.rule();
        for (int voter = 0; voter < 12; voter++) {
            told[n++] = x.may(voter);
            for (int what = 0; what < 3; what++) {
                told[n++] = x.voter(voter, what, 0);
            }
        }
        for (int row = 0; row < rows; row++) {
            told[n++] = x.attach(row, 1, 1, 1, 1);
        }
        told[n++] = x.wipe();
        told[n++] = x.close(0);
        return java.util.Arrays.copyOf(told, n);
    }
}
