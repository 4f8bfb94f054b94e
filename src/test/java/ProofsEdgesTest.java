/** The edges that promises 9 and 10 name. The numbers were worked out apart from the class. */
public final class ProofsEdgesTest {
    private static final int OUTSIDE = -2;
    private static final int MIN = Integer.MIN_VALUE, MAX = Integer.MAX_VALUE;
    /** So much more is alike both left over by P and left over by Q: only the range tells it apart. */
    private static final int P_TIMES_Q = 10007 * 5003;

    public static void main(String[] args) throws Exception {
        Edges.run(ProofsEdgesTest.class, 9, 10);
    }

    private static long[] proof(int m, int r, int w, int c, int z) {
        WallCount x = new WallCount();
        return new long[] {x.prove(m, r, w, c, z, 0), x.prove(m, r, w, c, z, 1), x.prove(m, r, w, c, z, 2), x.prove(m, r, w, c, z, 3)};
    }

    private static int check(int... p) {
        return new WallCount().check(p[0], p[1], p[2], p[3], p[4], p[5]);
    }

    /** A proof that holds, with one of its numbers put in another way. */
    private static int checkWith(int place, int number, int... good) {
        int[] p = good.clone();
        p[place] = number;
        return check(p);
    }

    // ---- 9 prove

    @Edge("MADE for m (0 or 1) by its lot r with lots w, c, z (0 to Q less 1)")
    static void promise09_numberTooSmallOrTooLarge(Due due) {
        for (int m : new int[] {-1, 2, MIN, MAX}) {
            Twins.refusedSome(due, "m " + m, OUTSIDE, x -> x.prove(m, 1, 1, 1, 1, 0));
        }
        due.all("m 0", proof(0, 1, 1, 1, 1), 4273, 4274, 1, 1);
        due.all("m 1", proof(1, 1, 1, 1, 1), 1, 1, 4792, 4793);
    }

    @Edge("MADE for m (0 or 1) by its lot r with lots w, c, z (0 to Q less 1)")
    static void promise09_lotTooSmallOrTooLarge(Due due) {
        for (int wrong : new int[] {-1, 5003, MIN, MAX}) {
            Twins.refusedSome(due, "r " + wrong, OUTSIDE, x -> x.prove(0, wrong, 1, 1, 1, 0));
            Twins.refusedSome(due, "w " + wrong, OUTSIDE, x -> x.prove(1, 1, wrong, 1, 1, 0));
            Twins.refusedSome(due, "c " + wrong, OUTSIDE, x -> x.prove(0, 1, 1, wrong, 1, 0));
            Twins.refusedSome(due, "z " + wrong, OUTSIDE, x -> x.prove(1, 1, 1, 1, wrong, 0));
        }
    }

    @Edge("MADE for m (0 or 1) by its lot r with lots w, c, z (0 to Q less 1)")
    static void promise09_leastLots(Due due) {
        due.all("of a no", proof(0, 0, 0, 0, 0), 2216, 0, 0, 0);
        due.all("of a yes", proof(1, 0, 0, 0, 0), 0, 0, 1117, 0);
    }

    @Edge("MADE for m (0 or 1) by its lot r with lots w, c, z (0 to Q less 1)")
    static void promise09_greatestLots(Due due) {
        due.all("all, of a no", proof(0, 5002, 5002, 5002, 5002), 2644, 2358, 5002, 5002);
        due.all("all, of a yes", proof(1, 5002, 5002, 5002, 5002), 5002, 5002, 3940, 1062);
        due.all("r alone, of a no", proof(0, 5002, 0, 0, 0), 4742, 261, 0, 0);
        due.all("r alone, of a yes", proof(1, 5002, 0, 0, 0), 0, 0, 3725, 1278);
        due.all("w alone, of a no", proof(0, 0, 5002, 0, 0), 1849, 5002, 0, 0);
        due.all("w alone, of a yes", proof(1, 0, 5002, 0, 0), 0, 0, 1101, 5002);
        due.all("c alone, of a no", proof(0, 0, 0, 5002, 0), 4718, 0, 5002, 0);
        due.all("c alone, of a yes", proof(1, 0, 0, 5002, 0), 5002, 0, 4001, 0);
        due.all("z alone, of a no", proof(0, 0, 0, 0, 5002), 2200, 0, 0, 5002);
        due.all("z alone, of a yes", proof(1, 0, 0, 0, 5002), 0, 5002, 750, 0);
    }

    @Edge("MADE: c0 (i = 0), z0, c1, z1 (3). OUTSIDE.")
    static void promise09_whichTooSmallOrTooLarge(Due due) {
        for (int i : new int[] {-1, 4, MIN, MAX}) {
            Twins.refusedSome(due, "i " + i, OUTSIDE, x -> x.prove(0, 1, 1, 1, 1, i));
        }
    }

    @Edge("its c: MIX less the other c, left over by Q")
    static void promise09_ownCWrapsAround(Due due) {
        due.all("MIX is the other c: none is left", proof(1, 1, 2, 631, 3), 631, 3, 0, 2);
        due.all("MIX is one below the other c", proof(0, 1, 2, 3697, 3), 5002, 1, 3697, 3);
        due.all("MIX is one below the other c", proof(1, 1, 2, 1090, 3), 1090, 3, 5002, 1);
        due.all("MIX is 0", proof(0, 1, 2, 4532, 3), 471, 473, 4532, 3);
        due.all("MIX is 0", proof(1, 1, 2, 2106, 3), 2106, 3, 2897, 2899);
    }

    @Edge("its z: w and c r, left over by Q.")
    static void promise09_ownZWrapsAround(Due due) {
        due.all("w and c are Q together", proof(0, 1, 2237, 4, 3), 2766, 0, 4, 3);
        due.all("w and c are Q less 1 together", proof(0, 1, 1118, 4, 3), 3884, 5002, 4, 3);
    }

    // ---- 10 check

    @Edge("Whether a PROOF HOLDS: 1, 0 (also the pair is not RIGHT, or a number is not 0 to Q less 1).")
    static void promise10_pairIsNotRight(Due due) {
        due.is("this one is RIGHT", check(3, 2203, 0, 0, 0, 0), 1);
        // MIX of these is 0 as well, so nothing but the pair speaks against them.
        due.is("A to Q is not 1", check(5, 2141, 0, 0, 0, 0), 0);
        due.is("B to Q is not 1", check(1, 2265, 0, 0, 0, 0), 0);
        due.is("A is 0", check(0, 2296, 0, 0, 0, 0), 0);
        due.is("A is P less 1", check(10006, 2296, 0, 0, 0, 0), 0);
        due.is("B is beyond P", check(3, 12209, 0, 0, 0, 0), 0);
        due.is("both are near P and RIGHT", check(10002, 7423, 0, 0, 0, 0), 1);
        due.is("both are near P and RIGHT", check(7498, 10002, 0, 0, 0, 0), 1);
    }

    @Edge("Whether a PROOF HOLDS: 1, 0 (also the pair is not RIGHT, or a number is not 0 to Q less 1).")
    static void promise10_pairTooSmallOrTooLarge(Due due) {
        int[] good = {4, 4, 471, 473, 4532, 3};
        due.is("this one holds", check(good), 1);
        for (int place = 0; place < 2; place++) {
            for (int number : new int[] {4 + P_TIMES_Q, 4 - P_TIMES_Q, 10011, -10003, 0, 10007, MIN, MAX}) {
                due.is("place " + place + ", " + number, checkWith(place, number, good), 0);
            }
        }
    }

    @Edge("Whether a PROOF HOLDS: 1, 0 (also the pair is not RIGHT, or a number is not 0 to Q less 1).")
    static void promise10_numberTooSmallOrTooLarge(Due due) {
        int[] good = {4, 16, 2106, 3, 2897, 2899};
        due.is("this one holds", check(good), 1);
        for (int place = 2; place < 6; place++) {
            for (int number : new int[] {good[place] + 5003, good[place] - 5003, good[place] + P_TIMES_Q, -1, 5003, MIN, MAX}) {
                due.is("place " + place + ", " + number, checkWith(place, number, good), 0);
            }
        }
    }

    @Edge("by c0, z0, c1, z1 (0 to Q less 1 each)")
    static void promise10_leastNumbers(Due due) {
        due.is("all are 0", check(3, 2203, 0, 0, 0, 0), 1);
        due.is("c0 0", check(1, 4, 0, 0, 1117, 0), 1);
        due.is("c1 0", check(4, 16, 631, 3, 0, 2), 1);
        due.is("z0, c1, z1 are 0", check(1, 1, 2216, 0, 0, 0), 1);
        due.is("-1 for a 0 of c0", check(1, 4, -1, 0, 1117, 0), 0);
        due.is("-1 for a 0 of z1", check(1, 1, 2216, 0, 0, -1), 0);
        due.is("5003 for a 0 of c0", check(1, 4, 5003, 0, 1117, 0), 0);
        due.is("5003 for a 0 of z1", check(1, 1, 2216, 0, 0, 5003), 0);
    }

    @Edge("by c0, z0, c1, z1 (0 to Q less 1 each)")
    static void promise10_greatestNumbers(Due due) {
        due.is("c1, z1", check(2502, 2502, 2644, 2358, 5002, 5002), 1);
        due.is("c0, z0", check(2502, 1, 5002, 5002, 3940, 1062), 1);
        due.is("c0 alone", check(4, 4, 5002, 1, 3697, 3), 1);
        due.is("z0 alone", check(4, 4, 3884, 5002, 4, 3), 1);
        due.is("c1 alone", check(4, 16, 1090, 3, 5002, 1), 1);
        due.is("z1 alone", check(1, 4, 0, 0, 1101, 5002), 1);
    }

    @Edge("It HOLDS, if c0 and c1, left over by Q, are MIX of A, B, S0, T0, S1, T1")
    static void promise10_sumWrapsAround(Due due) {
        due.is("c0 and c1 are Q", check(4, 4, 471, 473, 4532, 3), 1);
        due.is("c0 and c1 are Q less 1", check(4, 16, 2374, 3, 2628, 2630), 1);
        due.is("c0 and c1 are above Q", check(4, 4, 6, 8, 5000, 3), 1);
        due.is("c0 and c1 are 0", check(3, 2203, 0, 0, 0, 0), 1);
        due.is("one more", check(4, 4, 471, 473, 4533, 3), 0);
        due.is("one less", check(4, 4, 470, 473, 4532, 3), 0);
    }

    @Edge("from 1 on, for each of these in order: MIX times 31 and the number, left over by Q.")
    static void promise10_mixIsInOrder(Due due) {
        due.is("as it is", check(4, 16, 2106, 3, 2897, 2899), 1);
        due.is("A and B changed about", check(16, 4, 2106, 3, 2897, 2899), 0);
        due.is("the two halves changed about", check(4, 16, 2897, 2899, 2106, 3), 0);
        // A beginning at 0 instead of 1 would give these zeros another MIX than 0.
        due.is("MIX is 0 from 1 on", check(4, 2172, 0, 0, 0, 0), 1);
        due.is("B one more", check(4, 2173, 0, 0, 0, 0), 0);
    }

    @Edge("Calls that are refused answer, the first of these that fits")
    static void promise10_isNeverRefused(Due due) {
        for (int number : new int[] {MIN, -1, 5003, 10007, MAX}) {
            due.is("all are " + number, check(number, number, number, number, number, number), 0);
        }
    }
}
