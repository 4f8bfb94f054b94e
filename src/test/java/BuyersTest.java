/** Promises 31 to 33: buyers, and the counts of all parts. */
public final class BuyersTest {
    private static final int OUTSIDE = -2;
    private static final long LOST_OUTSIDE = -1000000000000000002L, LOST_STATE = -1000000000000000003L;
    private static final Due DUE = new Due();

    public static void main(String[] args) {
        told();
        forced();
        count();
        refusedChangesNothing();
        DUE.end();
    }

    private static final int[][] WRONG_SUMS = {{0, 0, 0, 0, 0, 0}, {9, 0, 0, 0, 0, 0}, {0, 9, 0, 0, 0, 0}, {0, 0, 9, 0, 0, 0},
        {3, 3, 3, 0, 0, 0}, {-1, 3, 3, 0, 0, 0}, {3, -1, 3, 0, 0, 0}, {3, 3, -1, 0, 0, 0}, {2, 2, 2, 3, 0, 0}, {2, 2, 2, 0, 3, 0},
        {2, 2, 2, 0, 0, 3}, {2, 2, 2, -1, 0, 0}, {2, 2, 2, 0, -1, 0}, {2, 2, 2, 0, 0, -1},
        {Integer.MAX_VALUE, Integer.MAX_VALUE, 3, 0, 0, 0}, {Integer.MIN_VALUE, Integer.MIN_VALUE, 1, 0, 0, 0}};

    private static void toldIs(int[] s, long... want) {
        WallCount x = new WallCount();
        for (int j = 0; j < 3; j++) {
            DUE.is("31 upper", x.told(s[0], s[1], s[2], s[3], s[4], s[5], j, 0), want[2 * j]);
            DUE.is("31 lower", x.told(s[0], s[1], s[2], s[3], s[4], s[5], j, 1), want[2 * j + 1]);
        }
    }

    private static void told() {
        toldIs(new int[] {4, 2, 2, 0, 0, 0}, 1, 2, 1, 4, 1, 4);
        toldIs(new int[] {4, 2, 2, 1, 2, 0}, 3, 5, 0, 1, 2, 5);
        toldIs(new int[] {0, 0, 8, 0, 0, 7}, 0, 1, 0, 1, 1, 1);
        toldIs(new int[] {2, 3, 1, 0, 0, 0}, 1, 3, 1, 2, 1, 6);
        toldIs(new int[] {0, 1, 0, 0, 0, 0}, 0, 1, 1, 1, 0, 1);
        toldIs(new int[] {1, 1, 1, 1, 1, 0}, 0, 1, 0, 1, 1, 1);
        WallCount x = new WallCount();
        for (int[] s : WRONG_SUMS) {
            DUE.is("31 outside", x.told(s[0], s[1], s[2], s[3], s[4], s[5], 0, 0), LOST_OUTSIDE);
        }
        int[][] wrong = {{-1, 0}, {3, 0}, {0, -1}, {0, 2}};
        for (int[] w : wrong) {
            DUE.is("31 outside", x.told(1, 1, 1, 0, 0, 0, w[0], w[1]), LOST_OUTSIDE);
            DUE.is("31 outside before state", x.told(1, 1, 1, 1, 1, 1, w[0], w[1]), LOST_OUTSIDE);
        }
        DUE.is("31 all are known", x.told(1, 1, 1, 1, 1, 1, 0, 0), LOST_STATE);
        DUE.is("31 all are known", x.told(0, 8, 0, 0, 8, 0, 2, 1), LOST_STATE);
    }

    private static void forced() {
        WallCount x = new WallCount();
        DUE.is("32 most for the first", x.forced(4, 2, 2, 0, 0, 0), 4);
        DUE.is("32 most for the second", x.forced(1, 5, 2, 0, 0, 0), 3);
        DUE.is("32 most for the third", x.forced(1, 2, 3, 0, 0, 0), 3);
        DUE.is("32 those known do not count", x.forced(5, 2, 1, 5, 0, 0), 1);
        DUE.is("32 one alone", x.forced(0, 0, 1, 0, 0, 0), 0);
        DUE.is("32 alike", x.forced(2, 2, 2, 0, 0, 0), 4);
        DUE.is("32 one choice is left", x.forced(5, 2, 1, 1, 2, 1), 0);
        DUE.is("32 all are known", x.forced(2, 1, 1, 2, 1, 1), 0);
        for (int[] s : WRONG_SUMS) {
            DUE.is("32 outside", x.forced(s[0], s[1], s[2], s[3], s[4], s[5]), OUTSIDE);
        }
    }

    private static long[] counts(WallCount x) {
        return new long[] {x.count(0), x.count(1), x.count(2), x.count(3), x.count(4), x.count(5), x.count(10), x.count(11),
            x.count(12), x.count(13), x.count(14)};
    }

    private static void count() {
        WallCount x = new WallCount();
        DUE.all("33 at first", counts(x), 0, 0, 4, 1, 100, 0, 0, 0, 0, 0, 0);
        x.key(3, 17, 29, 31);
        x.close(50);
        for (char sign : new char[] {'a', '>', '9'}) {
            x.say(sign);
        }
        x.rule();
        x.say('a');
        x.say('a');
        x.copy(1);
        x.copy(2);
        x.copy(3);
        x.voter(9, 0, 9);
        x.cast(0, 1, 51, 1, 1, 1, 1);
        x.row(0, 5, 5, 50);
        x.row(1, 5, 5, 50);
        for (int i = 0; i < 3; i++) {
            x.cast(9, 1, 50, 1, 1, 1, 1);
        }
        for (int i = 0; i < 5; i++) {
            x.cast(2, 1, 50, 1, 1, 1, 1);
        }
        x.cast(3, 0, 50, 1, 1, 1, 1);
        DUE.all("33 of all", counts(x), 12, 2, 1689, 3, 50, 3, 2, 1, 2, 3, 4);
        for (int what : new int[] {-1, 6, 7, 8, 9, 15, Integer.MIN_VALUE, Integer.MAX_VALUE}) {
            DUE.is("33 outside", x.count(what), OUTSIDE);
        }
    }

    /** Refused calls change nothing: all counts, heads and traits stay as they were. */
    private static void refusedChangesNothing() {
        WallCount x = new WallCount();
        x.cast(0, 1, 5, 1, 2, 3, 4);
        x.say('a');
        x.copy(4);
        long[] before = counts(x);
        int head = x.ofRow(0, 6);
        x.key(1, 2, 0, 0);
        x.key(0, 2, 0, 0);
        x.say(10);
        x.rule();
        x.close(1000);
        x.row(0, -1, 0, 0);
        x.row(12, 0, 0, 0);
        x.attach(0, 1, 1, 1, 1);
        x.attach(1, 1, 1, 1, 1);
        x.cast(0, 3, 0, 0, 0, 0, 0);
        x.copy(10000);
        x.voter(0, 0, 121);
        x.voter(0, 2, 2);
        DUE.all("refused calls change no count", counts(x), before);
        DUE.is("refused calls change no HEAD", x.ofRow(0, 6), head);
        DUE.is("refused calls change no AGE", x.voter(0, 0, 30), 30);
        DUE.is("refused calls change no BARRED", x.voter(0, 2, 0), 0);
        DUE.is("refused calls change no ROW", x.ofRow(0, 4), 0);
    }
}
