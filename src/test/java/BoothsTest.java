/** Promises 26 to 30: booths and slips. */
public final class BoothsTest {
    private static final int OUTSIDE = -2, NONE = -6;
    private static final long LOST_OUTSIDE = -1000000000000000002L;
    private static final Due DUE = new Due();

    public static void main(String[] args) {
        lies();
        ask();
        slips();
        drawn();
        sure();
        DUE.end();
    }

    private static void odds(String what, long upper, long lower, long wantUpper, long wantLower) {
        DUE.is(what + ", upper", upper, wantUpper);
        DUE.is(what + ", lower", lower, wantLower);
    }

    private static void liesAre(int n, int k, int x, long upper, long lower) {
        WallCount w = new WallCount();
        odds("26 of " + n + ", " + k + ", " + x, w.lies(n, k, x, 0), w.lies(n, k, x, 1), upper, lower);
    }

    private static void lies() {
        liesAre(1, 0, 0, 1, 1);
        liesAre(1, 1, 1, 0, 1);
        liesAre(1, 1, 0, 1, 1);
        liesAre(4, 1, 1, 3, 4);
        liesAre(4, 2, 2, 1, 6);
        liesAre(4, 2, 3, 0, 1);
        liesAre(10, 5, 1, 1, 2);
        liesAre(40, 1, 40, 0, 1);
        liesAre(40, 20, 20, 1, 137846528820L);
        liesAre(40, 0, 20, 1, 1);
        WallCount w = new WallCount();
        int[][] outside = {{0, 0, 0, 0}, {41, 0, 0, 0}, {5, -1, 0, 0}, {5, 6, 0, 0}, {5, 0, -1, 0}, {5, 0, 6, 0}, {5, 0, 0, -1},
            {5, 0, 0, 2}, {Integer.MIN_VALUE, 0, 0, 0}, {5, Integer.MAX_VALUE, 0, 0}};
        for (int[] o : outside) {
            DUE.is("26 outside", w.lies(o[0], o[1], o[2], o[3]), LOST_OUTSIDE);
        }
    }

    private static void ask() {
        WallCount w = new WallCount();
        DUE.is("27 just as much", w.ask(4, 1, 75), 1);
        DUE.is("27 a little less", w.ask(4, 1, 74), 2);
        DUE.is("27 for sure", w.ask(4, 1, 0), 4);
        DUE.is("27 for sure", w.ask(4, 4, 0), 1);
        DUE.is("27 any odds", w.ask(4, 4, 100), 0);
        DUE.is("27 nothing is false", w.ask(4, 0, 99), NONE);
        DUE.is("27 nothing is false", w.ask(4, 0, 100), 0);
        DUE.is("27 nothing is false", w.ask(1, 0, 0), NONE);
        DUE.is("27 one", w.ask(1, 1, 99), 1);
        DUE.is("27 forty", w.ask(40, 1, 5), 38);
        int[][] outside = {{0, 0, 0}, {41, 0, 0}, {5, -1, 0}, {5, 6, 0}, {5, 0, -1}, {5, 0, 101}};
        for (int[] o : outside) {
            DUE.is("27 outside", w.ask(o[0], o[1], o[2]), OUTSIDE);
        }
    }

    private static void slipsAre(int all, int n, int w, long upper, long lower) {
        WallCount x = new WallCount();
        odds("28 of " + all + ", " + n + ", " + w, x.slips(all, n, w, 0), x.slips(all, n, w, 1), upper, lower);
    }

    private static void slips() {
        slipsAre(2, 0, 0, 1, 1);
        slipsAre(2, 1, 1, 1, 2);
        slipsAre(2, 2, 1, 1, 1);
        slipsAre(2, 2, 2, 0, 1);
        slipsAre(3, 1, 1, 2, 3);
        slipsAre(3, 2, 2, 1, 3);
        slipsAre(3, 2, 1, 1, 1);
        slipsAre(4, 2, 1, 5, 6);
        slipsAre(40, 20, 20, 1, 137846528820L);
        slipsAre(40, 40, 20, 1, 1);
        slipsAre(39, 39, 20, 1, 1);
        slipsAre(39, 39, 21, 0, 1);
        WallCount x = new WallCount();
        int[][] outside = {{1, 0, 0, 0}, {41, 0, 0, 0}, {5, -1, 0, 0}, {5, 6, 0, 0}, {5, 3, -1, 0}, {5, 3, 4, 0}, {5, 3, 3, -1},
            {5, 3, 3, 2}, {40, Integer.MAX_VALUE, 0, 0}, {Integer.MIN_VALUE, 0, 0, 0}};
        for (int[] o : outside) {
            DUE.is("28 outside", x.slips(o[0], o[1], o[2], o[3]), LOST_OUTSIDE);
        }
    }

    private static void drawn() {
        WallCount x = new WallCount();
        // 16807 and 282475249, then 1622650073: the first lots from the seed 1.
        DUE.all("29 of 40", new long[] {x.drawn(1, 40, 1), x.drawn(1, 40, 2), x.drawn(1, 40, 3)}, 7, 9, 33);
        DUE.all("29 of 2", new long[] {x.drawn(1, 2, 1), x.drawn(1, 2, 2), x.drawn(1, 2, 3)}, 1, 1, 1);
        DUE.is("29 the greatest seed", x.drawn(1000000, 40, 1), 16807000000L % 2147483647L % 40);
        DUE.is("29 the fortieth", x.drawn(1, 40, 40), 21);
        int[][] outside = {{0, 2, 1}, {1000001, 2, 1}, {-1, 2, 1}, {1, 1, 1}, {1, 41, 1}, {1, 0, 1}, {1, 2, 0}, {1, 2, 41}};
        for (int[] o : outside) {
            DUE.is("29 outside", x.drawn(o[0], o[1], o[2]), OUTSIDE);
        }
    }

    private static void sure() {
        WallCount x = new WallCount();
        DUE.is("30 just as much", x.sure(2, 50), 1);
        DUE.is("30 a little less", x.sure(2, 49), 2);
        DUE.is("30 of three", x.sure(3, 66), 2);
        DUE.is("30 of three", x.sure(3, 67), 1);
        DUE.is("30 of four for sure", x.sure(4, 0), 3);
        DUE.is("30 at least one", x.sure(40, 100), 1);
        DUE.is("30 of forty for sure", x.sure(40, 0), 21);
        DUE.is("30 of 39 for sure", x.sure(39, 0), 21);
        int[][] outside = {{1, 0}, {41, 0}, {-2, 0}, {2, -1}, {2, 101}};
        for (int[] o : outside) {
            DUE.is("30 outside", x.sure(o[0], o[1]), OUTSIDE);
        }
    }
}
