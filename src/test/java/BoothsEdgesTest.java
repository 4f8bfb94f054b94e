/** The edges that promises 26 to 30 name. The numbers were worked out apart from the class. */
public final class BoothsEdgesTest {
    private static final int OUTSIDE = -2, NONE = -6;
    private static final long LOST_OUTSIDE = -1000000000000000002L;
    private static final int MIN = Integer.MIN_VALUE, MAX = Integer.MAX_VALUE;

    public static void main(String[] args) throws Exception {
        Edges.run(BoothsEdgesTest.class, 26, 30);
    }

    private static long[] lies(int n, int k, int x) {
        WallCount w = new WallCount();
        return new long[] {w.lies(n, k, x, 0), w.lies(n, k, x, 1)};
    }

    private static long[] slips(int all, int n, int w) {
        WallCount x = new WallCount();
        return new long[] {x.slips(all, n, w, 0), x.slips(all, n, w, 1)};
    }

    private static int ask(int n, int k, int s) {
        return new WallCount().ask(n, k, s);
    }

    private static int drawn(int seed, int all, int n) {
        return new WallCount().drawn(seed, all, n);
    }

    private static int sure(int all, int s) {
        return new WallCount().sure(all, s);
    }

    // ---- 26 lies

    @Edge("LIES: a booth seals n (1 to 40), k of them (0 to n) falsely; x (0 to n) are asked, any alike")
    static void promise26_sealedTooFewOrTooMany(Due due) {
        for (int n : new int[] {0, -1, 41, MIN, MAX}) {
            Twins.refusedSome(due, "n " + n, LOST_OUTSIDE, w -> w.lies(n, 0, 0, 0));
            Twins.refusedSome(due, "n " + n + ", lower", LOST_OUTSIDE, w -> w.lies(n, 0, 0, 1));
        }
        due.all("n 1", lies(1, 0, 0), 1, 1);
        due.all("n 40", lies(40, 1, 1), 39, 40);
    }

    @Edge("LIES: a booth seals n (1 to 40), k of them (0 to n) falsely; x (0 to n) are asked, any alike")
    static void promise26_falseTooFewOrTooMany(Due due) {
        for (int k : new int[] {-1, 6, 40, MIN, MAX}) {
            Twins.refusedSome(due, "k " + k + " of 5", LOST_OUTSIDE, w -> w.lies(5, k, 1, 0));
        }
        due.all("none is false", lies(5, 0, 5), 1, 1);
        due.all("all are false", lies(5, 5, 1), 0, 1);
        due.all("all of 40", lies(40, 40, 1), 0, 1);
        due.all("all but one of 40", lies(40, 39, 1), 1, 40);
    }

    @Edge("LIES: a booth seals n (1 to 40), k of them (0 to n) falsely; x (0 to n) are asked, any alike")
    static void promise26_askedTooFewOrTooMany(Due due) {
        for (int x : new int[] {-1, 6, 40, MIN, MAX}) {
            Twins.refusedSome(due, "x " + x + " of 5", LOST_OUTSIDE, w -> w.lies(5, 1, x, 0));
        }
        due.all("none is asked", lies(5, 5, 0), 1, 1);
        due.all("all are asked", lies(5, 1, 5), 0, 1);
        due.all("all but one of 40 are asked", lies(40, 1, 39), 1, 40);
        due.all("none of 40 is asked", lies(40, 40, 0), 1, 1);
    }

    @Edge("LIES. OUTSIDE (LOST less 2).")
    static void promise26_partTooSmallOrTooLarge(Due due) {
        for (int part : new int[] {-1, 2, MIN, MAX}) {
            Twins.refusedSome(due, "part " + part, LOST_OUTSIDE, w -> w.lies(5, 1, 1, part));
        }
    }

    @Edge("Fractions are told by part: 0 the upper, 1 the lower number, in lowest terms (0 by 1 for none)")
    static void promise26_lowestTerms(Due due) {
        due.all("28 by 45", lies(10, 2, 2), 28, 45);
        due.all("5 by 10", lies(10, 5, 1), 1, 2);
        due.all("just as many as are true", lies(40, 20, 20), 1, 137846528820L);
        due.all("one more than are true: none", lies(40, 20, 21), 0, 1);
        due.all("two where one is true: none", lies(40, 39, 2), 0, 1);
        due.all("the greatest upper number", lies(38, 8, 8), 1950975, 16301164);
        due.all("all of one", lies(1, 1, 1), 0, 1);
        due.all("sure", lies(40, 0, 40), 1, 1);
    }

    // ---- 27 ask

    @Edge("ASK; NONE. OUTSIDE.")
    static void promise27_numberTooSmallOrTooLarge(Due due) {
        for (int n : new int[] {0, -1, 41, MIN, MAX}) {
            Twins.refusedSome(due, "n " + n, OUTSIDE, w -> w.ask(n, 0, 50));
        }
        for (int k : new int[] {-1, 6, 40, MIN, MAX}) {
            Twins.refusedSome(due, "k " + k + " of 5", OUTSIDE, w -> w.ask(5, k, 50));
        }
        due.all("n 1 and 40", new long[] {ask(1, 1, 50), ask(40, 1, 50)}, 1, 20);
        due.all("k all of them", new long[] {ask(5, 5, 50), ask(40, 40, 50)}, 1, 1);
    }

    @Edge("ASK: the least x by which these odds are s hundredths (0 to 100) or less; none.")
    static void promise27_hundredthsTooSmallOrTooLarge(Due due) {
        for (int s : new int[] {-1, 101, MIN, MAX}) {
            Twins.refusedSome(due, "s " + s, OUTSIDE, w -> w.ask(5, 1, s));
        }
        due.all("s 0", new long[] {ask(1, 1, 0), ask(40, 1, 0), ask(40, 20, 0), ask(40, 40, 0)}, 1, 40, 21, 1);
        due.all("s 100: nobody is asked", new long[] {ask(1, 1, 100), ask(40, 1, 100), ask(1, 0, 100), ask(40, 40, 100)}, 0, 0, 0, 0);
        due.all("s 99", new long[] {ask(1, 1, 99), ask(40, 40, 99), ask(40, 1, 99)}, 1, 1, 1);
    }

    @Edge("ASK: the least x by which these odds are s hundredths (0 to 100) or less; none.")
    static void promise27_justAsMuch(Due due) {
        due.all("1 by 2", new long[] {ask(2, 1, 50), ask(2, 1, 49)}, 1, 2);
        due.all("1 by 4", new long[] {ask(4, 1, 25), ask(4, 1, 24)}, 3, 4);
        due.all("20 by 40", new long[] {ask(40, 1, 50), ask(40, 1, 49)}, 20, 21);
        due.all("39 by 40 is between 97 and 98", new long[] {ask(40, 1, 98), ask(40, 1, 97)}, 1, 2);
    }

    @Edge("ASK: the least x by which these odds are s hundredths (0 to 100) or less; none.")
    static void promise27_none(Due due) {
        due.each("none is false", NONE, ask(1, 0, 0), ask(1, 0, 99), ask(40, 0, 0), ask(40, 0, 99));
        due.each("none is false, any odds will do", 0, ask(1, 0, 100), ask(40, 0, 100));
    }

    // ---- 28 slips

    @Edge("SLIPS: of N slips (2 to 40) half and half")
    static void promise28_slipsTooFewOrTooMany(Due due) {
        for (int all : new int[] {1, 0, -1, 41, MIN, MAX}) {
            Twins.refusedSome(due, "N " + all, LOST_OUTSIDE, x -> x.slips(all, 0, 0, 0));
            Twins.refusedSome(due, "N " + all + ", lower", LOST_OUTSIDE, x -> x.slips(all, 0, 0, 1));
        }
        due.all("N 2", slips(2, 1, 1), 1, 2);
        due.all("N 40", slips(40, 1, 1), 1, 2);
    }

    @Edge("SLIPS. OUTSIDE: also n 0 to N, w 0 to n (LOST less 2).")
    static void promise28_drawnTooFewOrTooMany(Due due) {
        for (int n : new int[] {-1, 6, 40, MIN, MAX}) {
            Twins.refusedSome(due, "n " + n + " of 5", LOST_OUTSIDE, x -> x.slips(5, n, 0, 0));
        }
        due.all("none is drawn", slips(5, 0, 0), 1, 1);
        due.all("all are drawn", slips(5, 5, 3), 1, 1);
        due.all("all are drawn, one more than the one has", slips(5, 5, 4), 0, 1);
        due.all("all of 40", slips(40, 40, 20), 1, 1);
        due.all("all of 40, one more than the one has", slips(40, 40, 21), 0, 1);
    }

    @Edge("SLIPS. OUTSIDE: also n 0 to N, w 0 to n (LOST less 2).")
    static void promise28_forTheOneTooFewOrTooMany(Due due) {
        for (int w : new int[] {-1, 4, 5, MIN, MAX}) {
            Twins.refusedSome(due, "w " + w + " of 3", LOST_OUTSIDE, x -> x.slips(5, 3, w, 0));
        }
        Twins.refusedSome(due, "w 1 of none", LOST_OUTSIDE, x -> x.slips(5, 0, 1, 0));
        due.all("none or more", slips(5, 3, 0), 1, 1);
        due.all("all that are drawn", slips(5, 3, 3), 1, 10);
        due.all("just as many as the one has", slips(40, 20, 20), 1, 137846528820L);
        due.all("one more than the one has", slips(40, 21, 21), 0, 1);
        due.all("all of forty", slips(40, 40, 40), 0, 1);
    }

    @Edge("Fractions are told by part: 0 the upper, 1 the lower number, in lowest terms (0 by 1 for none)")
    static void promise28_partTooSmallOrTooLarge(Due due) {
        for (int part : new int[] {-1, 2, MIN, MAX}) {
            Twins.refusedSome(due, "part " + part, LOST_OUTSIDE, x -> x.slips(5, 1, 1, part));
        }
    }

    @Edge("half and half (N less N by 2 for the one, N by 2 for the other)")
    static void promise28_oddOneIsForTheOne(Due due) {
        due.all("2 of 3", slips(3, 1, 1), 2, 3);
        due.all("all of 3", slips(3, 3, 2), 1, 1);
        due.all("all of 3, no more", slips(3, 3, 3), 0, 1);
        due.all("20 of 39", slips(39, 1, 1), 20, 39);
        due.all("all of 39", slips(39, 39, 20), 1, 1);
        due.all("all of 39, no more", slips(39, 39, 21), 0, 1);
        due.all("20 drawn of 39", slips(39, 20, 20), 1, 68923264410L);
    }

    @Edge("Quotients are cut.")
    static void promise28_quotientsAreCut(Due due) {
        for (int all = 2; all <= 40; all++) {
            int forOne = (all + 1) / 2;
            due.all("all of " + all + " are drawn: so many are for the one", slips(all, all, forOne), 1, 1);
            due.all("all of " + all + " are drawn: one more is too many", slips(all, all, forOne + 1), 0, 1);
        }
    }

    @Edge("Fractions are told by part: 0 the upper, 1 the lower number, in lowest terms (0 by 1 for none)")
    static void promise28_lowestTerms(Due due) {
        due.all("the greatest numbers", slips(40, 20, 1), 137846528819L, 137846528820L);
        due.all("half of them or more", slips(40, 20, 10), 300666623, 481980870);
        due.all("one is left", slips(40, 39, 20), 1, 2);
        due.all("so many that some are for the one", slips(40, 39, 19), 1, 1);
        due.all("the other has too few", slips(5, 4, 2), 1, 1);
    }

    // ---- 29 drawn

    @Edge("DRAWN by a seed (1 to 1000000)")
    static void promise29_seedTooSmallOrTooLarge(Due due) {
        for (int seed : new int[] {0, -1, 1000001, MIN, MAX}) {
            Twins.refusedSome(due, "seed " + seed, OUTSIDE, x -> x.drawn(seed, 40, 1));
        }
        due.all("least and greatest", new long[] {drawn(1, 40, 1), drawn(1000000, 40, 1)}, 7, 31);
        due.all("least and greatest, the fortieth", new long[] {drawn(1, 40, 40), drawn(1000000, 40, 40)}, 21, 34);
    }

    @Edge("SLIPS: of N slips (2 to 40) half and half")
    static void promise29_slipsTooFewOrTooMany(Due due) {
        for (int all : new int[] {1, 0, -1, 41, MIN, MAX}) {
            Twins.refusedSome(due, "N " + all, OUTSIDE, x -> x.drawn(1, all, 1));
        }
        due.all("2 and 40", new long[] {drawn(1, 2, 1), drawn(1, 40, 1)}, 1, 7);
    }

    @Edge("DRAWN: the n-th slip (1 to 40). OUTSIDE.")
    static void promise29_whichTooSmallOrTooLarge(Due due) {
        for (int n : new int[] {0, -1, 41, MIN, MAX}) {
            Twins.refusedSome(due, "n " + n, OUTSIDE, x -> x.drawn(1, 40, n));
        }
        due.all("the first and the fortieth", new long[] {drawn(1, 40, 1), drawn(1, 40, 40)}, 7, 21);
        due.all("more than N, for slips may be drawn again", new long[] {drawn(1, 2, 3), drawn(1, 2, 4), drawn(1, 2, 40)}, 1, 0, 1);
    }

    @Edge("n times the seed becomes seed times 16807 left over by 2147483647: the slip is that left over by N")
    static void promise29_seedWrapsAround(Due due) {
        due.is("the last seed below", drawn(127773, 40, 1), 2147480811 % 40);
        due.is("the first seed over", drawn(127774, 40, 1), (2147497618L - 2147483647L) % 40);
        due.all("many times over", new long[] {drawn(1000000, 39, 40), drawn(1, 40, 2), drawn(1, 40, 3)}, 17, 9, 33);
    }

    @Edge("the slip is that left over by N (slips may be drawn again).")
    static void promise29_leastAndGreatestSlip(Due due) {
        due.all("0 and 39 of 40", new long[] {drawn(40, 40, 1), drawn(17, 40, 1)}, 0, 39);
        due.all("0 again", new long[] {drawn(1, 40, 11), drawn(1, 40, 19), drawn(1, 40, 25)}, 0, 0, 0);
        due.all("0 and 1 of 2", new long[] {drawn(1, 2, 4), drawn(1, 2, 9)}, 0, 1);
    }

    // ---- 30 sure

    @Edge("SURE; NONE. OUTSIDE.")
    static void promise30_slipsTooFewOrTooMany(Due due) {
        for (int all : new int[] {1, 0, -1, 41, MIN, MAX}) {
            Twins.refusedSome(due, "N " + all, OUTSIDE, x -> x.sure(all, 50));
        }
        due.all("2 and 40", new long[] {sure(2, 0), sure(40, 0)}, 2, 21);
    }

    @Edge("SURE; NONE. OUTSIDE.")
    static void promise30_hundredthsTooSmallOrTooLarge(Due due) {
        for (int s : new int[] {-1, 101, MIN, MAX}) {
            Twins.refusedSome(due, "s " + s, OUTSIDE, x -> x.sure(5, s));
        }
        due.all("s 0", new long[] {sure(2, 0), sure(3, 0), sure(39, 0), sure(40, 0)}, 2, 3, 21, 21);
        due.all("s 100: one is drawn all the same", new long[] {sure(2, 100), sure(39, 100), sure(40, 100)}, 1, 1, 1);
    }

    @Edge("SURE: the least n of 1 to N by which, all being for the one, these odds are s hundredths or less; none.")
    static void promise30_justAsMuch(Due due) {
        due.all("1 by 2", new long[] {sure(2, 50), sure(2, 49), sure(40, 50), sure(40, 49)}, 1, 2, 1, 2);
        due.all("2 by 3 and 1 by 3", new long[] {sure(3, 67), sure(3, 66), sure(3, 34), sure(3, 33)}, 1, 2, 2, 3);
        due.all("20 by 39", new long[] {sure(39, 52), sure(39, 51)}, 1, 2);
        due.all("1 by 6", new long[] {sure(4, 17), sure(4, 16)}, 2, 3);
    }

    @Edge("SURE: the least n of 1 to N by which, all being for the one, these odds are s hundredths or less; none.")
    static void promise30_neverNone(Due due) {
        // Of 2 slips or more one is for the other, so that all N are never for the one.
        for (int all = 2; all <= 40; all++) {
            due.is("one more than the one has, of " + all, sure(all, 0), all - all / 2 + 1);
        }
    }
}
