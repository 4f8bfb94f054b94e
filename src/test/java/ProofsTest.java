/** Promises 9 and 10: proofs. The numbers were worked out apart from the class. */
public final class ProofsTest {
    private static final int OUTSIDE = -2;
    private static final Due DUE = new Due();

    public static void main(String[] args) {
        prove();
        check();
        DUE.end();
    }

    private static WallCount withKey() {
        WallCount x = new WallCount();
        x.key(3, 17, 29, 31);
        return x;
    }

    private static long[] proof(WallCount x, int m, int r, int w, int c, int z) {
        long[] proof = new long[4];
        for (int i = 0; i < 4; i++) {
            proof[i] = x.prove(m, r, w, c, z, i);
        }
        return proof;
    }

    private static void prove() {
        WallCount x = withKey();
        DUE.all("9 of a no", proof(x, 0, 101, 202, 303, 404), 4574, 1900, 303, 404);
        DUE.all("9 of a yes", proof(x, 1, 101, 202, 303, 404), 303, 404, 3410, 4408);
        DUE.all("9 edge", proof(x, 0, 5002, 5002, 5002, 5002), 1884, 3118, 5002, 5002);
        DUE.all("9 edge", proof(x, 1, 5002, 5002, 5002, 5002), 5002, 5002, 3220, 1782);
        int[] good = {0, 1, 1, 1, 1, 0};
        int[] most = {1, 5002, 5002, 5002, 5002, 3};
        for (int place = 0; place < 6; place++) {
            for (int wrong : new int[] {-1, most[place] + 1, Integer.MIN_VALUE, Integer.MAX_VALUE}) {
                int[] o = good.clone();
                o[place] = wrong;
                DUE.is("9 outside, place " + place, x.prove(o[0], o[1], o[2], o[3], o[4], o[5]), OUTSIDE);
            }
        }
    }

    private static void check() {
        WallCount x = withKey();
        DUE.is("10 of a no", x.check(7381, 7423, 4574, 1900, 303, 404), 1);
        DUE.is("10 of a yes", x.check(7381, 9678, 303, 404, 3410, 4408), 1);
        int[] good = {7381, 9678, 303, 404, 3410, 4408};
        for (int place = 0; place < 6; place++) {
            for (int wrong : new int[] {good[place] + 1, good[place] - 1, good[place] + (place < 2 ? 10007 : 5003),
                good[place] - (place < 2 ? 10007 : 5003), Integer.MIN_VALUE, Integer.MAX_VALUE}) {
                int[] o = good.clone();
                o[place] = wrong;
                DUE.is("10 wrong, place " + place, x.check(o[0], o[1], o[2], o[3], o[4], o[5]), 0);
            }
        }
        DUE.is("10 proof of the other", x.check(7381, 7423, 303, 404, 3410, 4408), 0);
        DUE.is("10 proof of zeros that holds", x.check(3, 2203, 0, 0, 0, 0), 1);
        DUE.is("10 proof of zeros that does not", x.check(3, 2204, 0, 0, 0, 0), 0);
        x.key(1, 1, 0, 0);
        DUE.is("10 by another key", x.check(7381, 7423, 4574, 1900, 303, 404), 0);
        everyMadeOneHolds(x);
        neitherNoNorYes(x);
    }

    private static void everyMadeOneHolds(WallCount x) {
        for (int r = 0; r < 5003; r += 1667) {
            for (int m = 0; m <= 1; m++) {
                long[] p = proof(x, m, r, 5002 - r, 3 * m + 5, r / 2);
                int holds = x.check(x.seal(m, r, 0), x.seal(m, r, 1), (int) p[0], (int) p[1], (int) p[2], (int) p[3]);
                DUE.is("10 made", holds, 1);
            }
        }
    }

    /** The proof of a yes does not carry over to a SEAL of 2 by the same lot. */
    private static void neitherNoNorYes(WallCount x) {
        long[] p = proof(x, 1, 55, 66, 77, 88);
        int holds = x.check(x.seal(2, 55, 0), x.seal(2, 55, 1), (int) p[0], (int) p[1], (int) p[2], (int) p[3]);
        DUE.is("10 of a two", holds, 0);
    }
}
