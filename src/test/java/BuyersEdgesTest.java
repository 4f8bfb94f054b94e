/** The edges that promises 31 to 33 name. */
public final class BuyersEdgesTest {
    private static final int OUTSIDE = -2;
    private static final long LOST_OUTSIDE = -1000000000000000002L, LOST_STATE = -1000000000000000003L;
    private static final int MIN = Integer.MIN_VALUE, MAX = Integer.MAX_VALUE;

    public static void main(String[] args) throws Exception {
        Edges.run(BuyersEdgesTest.class, 31, 33);
    }

    /** The odds for 0, 1 and 2, upper and lower number of each. */
    private static long[] told(int... s) {
        WallCount x = new WallCount();
        long[] odds = new long[6];
        for (int i = 0; i < 6; i++) {
            odds[i] = x.told(s[0], s[1], s[2], s[3], s[4], s[5], i / 2, i % 2);
        }
        return odds;
    }

    private static void toldOutside(Due due, int... s) {
        String what = java.util.Arrays.toString(s);
        Twins.refusedSome(due, "upper of " + what, LOST_OUTSIDE, x -> x.told(s[0], s[1], s[2], s[3], s[4], s[5], 0, 0));
        Twins.refusedSome(due, "lower of " + what, LOST_OUTSIDE, x -> x.told(s[0], s[1], s[2], s[3], s[4], s[5], 2, 1));
    }

    private static int forced(int... s) {
        return new WallCount().forced(s[0], s[1], s[2], s[3], s[4], s[5]);
    }

    private static void forcedOutside(Due due, int... s) {
        Twins.refusedSome(due, java.util.Arrays.toString(s), OUTSIDE, x -> x.forced(s[0], s[1], s[2], s[3], s[4], s[5]));
    }

    private static int[] with(int place, int number, int... others) {
        int[] s = others.clone();
        s[place] = number;
        return s;
    }

    // ---- 31 told

    @Edge("SUMS a, b, c (0 to 8 each, 1 to 8 together)")
    static void promise31_sumTooSmallOrTooLarge(Due due) {
        for (int place = 0; place < 3; place++) {
            for (int wrong : new int[] {-1, 9, MIN, MAX}) {
                toldOutside(due, with(place, wrong, 1, 1, 1, 0, 0, 0));
            }
        }
        due.all("8 of the first", told(8, 0, 0, 0, 0, 0), 1, 1, 0, 1, 0, 1);
        due.all("8 of the second", told(0, 8, 0, 0, 0, 0), 0, 1, 1, 1, 0, 1);
        due.all("8 of the third", told(0, 0, 8, 0, 0, 0), 0, 1, 0, 1, 1, 1);
    }

    @Edge("n (1 to 8) have voted for one of 3; SUMS of those 3 are told (together n)")
    static void promise31_togetherTooFewOrTooMany(Due due) {
        toldOutside(due, 0, 0, 0, 0, 0, 0);
        toldOutside(due, 3, 3, 3, 0, 0, 0);
        toldOutside(due, 8, 1, 0, 0, 0, 0);
        toldOutside(due, 0, 8, 8, 0, 0, 0);
        toldOutside(due, 8, 8, 8, 8, 8, 8);
        // Together 5, but only by running over.
        toldOutside(due, MAX, MAX, 7, 0, 0, 0);
        toldOutside(due, MIN, MIN, 5, 0, 0, 0);
        due.all("1 together", told(0, 1, 0, 0, 0, 0), 0, 1, 1, 1, 0, 1);
        due.all("8 together", told(3, 3, 2, 0, 0, 0), 3, 8, 3, 8, 1, 4);
        due.all("one less than 0 does not make the others fit", told(9, -1, 0, 0, 0, 0), LOST_OUTSIDE, LOST_OUTSIDE, LOST_OUTSIDE,
            LOST_OUTSIDE, LOST_OUTSIDE, LOST_OUTSIDE);
    }

    @Edge("how k of these n voted (counts of 3 of them, no more than SUMS)")
    static void promise31_knownTooFewOrTooMany(Due due) {
        for (int place = 3; place < 6; place++) {
            for (int wrong : new int[] {-1, 3, 8, MIN, MAX}) {
                toldOutside(due, with(place, wrong, 2, 2, 2, 0, 0, 0));
            }
        }
        toldOutside(due, 2, 2, 2, 3, 0, 0);
        toldOutside(due, 2, 0, 2, 0, 1, 0);
        due.all("none is known", told(2, 2, 2, 0, 0, 0), 1, 3, 1, 3, 1, 3);
        due.all("as many as SUMS of two", told(2, 2, 2, 2, 2, 0), 0, 1, 0, 1, 1, 1);
        due.all("all but one", told(2, 2, 2, 1, 2, 2), 1, 1, 0, 1, 0, 1);
    }

    @Edge("known ka, kb, kc: the odds for j.")
    static void promise31_choiceTooSmallOrTooLarge(Due due) {
        for (int j : new int[] {-1, 3, MIN, MAX}) {
            Twins.refusedSome(due, "j " + j, LOST_OUTSIDE, x -> x.told(2, 2, 2, 0, 0, 0, j, 0));
        }
        due.all("0, 1 and 2", told(1, 2, 4, 0, 0, 0), 1, 7, 2, 7, 4, 7);
    }

    @Edge("Fractions are told by part: 0 the upper, 1 the lower number, in lowest terms (0 by 1 for none)")
    static void promise31_partTooSmallOrTooLarge(Due due) {
        for (int part : new int[] {-1, 2, MIN, MAX}) {
            Twins.refusedSome(due, "part " + part, LOST_OUTSIDE, x -> x.told(2, 2, 2, 0, 0, 0, 0, part));
        }
    }

    @Edge("Fractions are told by part: 0 the upper, 1 the lower number, in lowest terms (0 by 1 for none)")
    static void promise31_lowestTerms(Due due) {
        due.all("4, 2 and 2 of 8", told(4, 2, 2, 0, 0, 0), 1, 2, 1, 4, 1, 4);
        due.all("2, 0 and 4 of 6: none", told(2, 0, 4, 0, 0, 0), 1, 3, 0, 1, 2, 3);
        due.all("those known do not count", told(6, 1, 1, 4, 1, 0), 2, 3, 0, 1, 1, 3);
    }

    @Edge("OUTSIDE; STATE: all are known (LOST less 2, 3).")
    static void promise31_allAreKnown(Due due) {
        int[][] known = {{1, 0, 0, 1, 0, 0}, {0, 0, 8, 0, 0, 8}, {3, 3, 2, 3, 3, 2}};
        for (int[] s : known) {
            for (int j = 0; j < 3; j++) {
                int choice = j;
                Twins.refusedSome(due, "upper", LOST_STATE, x -> x.told(s[0], s[1], s[2], s[3], s[4], s[5], choice, 0));
                Twins.refusedSome(due, "lower", LOST_STATE, x -> x.told(s[0], s[1], s[2], s[3], s[4], s[5], choice, 1));
            }
        }
        due.all("all but one", told(3, 3, 2, 3, 3, 1), 0, 1, 0, 1, 1, 1);
    }

    @Edge("Calls that are refused answer, the first of these that fits")
    static void promise31_outsideBeforeState(Due due) {
        Twins.refusedSome(due, "j", LOST_OUTSIDE, x -> x.told(1, 1, 1, 1, 1, 1, 3, 0));
        Twins.refusedSome(due, "part", LOST_OUTSIDE, x -> x.told(1, 1, 1, 1, 1, 1, 0, 2));
        Twins.refusedSome(due, "none have voted", LOST_OUTSIDE, x -> x.told(0, 0, 0, 0, 0, 0, 0, 0));
        Twins.refusedSome(due, "9 have voted, all are known", LOST_OUTSIDE, x -> x.told(3, 3, 3, 3, 3, 3, 0, 0));
        Twins.refusedSome(due, "known in all, but not of each", LOST_OUTSIDE, x -> x.told(2, 1, 0, 1, 2, 0, 0, 0));
    }

    @Edge("refused with LOST and the refusal.")
    static void promise31_lostAndTheRefusal(Due due) {
        WallCount x = new WallCount();
        due.is("LOST less 2", x.told(0, 0, 0, 0, 0, 0, 0, 0), WallCount.LOST + WallCount.OUTSIDE);
        due.is("LOST less 3", x.told(1, 0, 0, 1, 0, 0, 0, 0), WallCount.LOST + WallCount.STATE);
    }

    // ---- 32 forced

    @Edge("FORCED. OUTSIDE.")
    static void promise32_sumTooSmallOrTooLarge(Due due) {
        for (int place = 0; place < 3; place++) {
            for (int wrong : new int[] {-1, 9, MIN, MAX}) {
                forcedOutside(due, with(place, wrong, 1, 1, 1, 0, 0, 0));
            }
        }
        due.all("8 of one choice", new long[] {forced(8, 0, 0, 0, 0, 0), forced(0, 8, 0, 0, 0, 0), forced(0, 0, 8, 0, 0, 0)}, 0, 0, 0);
    }

    @Edge("SUMS a, b, c (0 to 8 each, 1 to 8 together)")
    static void promise32_togetherTooFewOrTooMany(Due due) {
        forcedOutside(due, 0, 0, 0, 0, 0, 0);
        forcedOutside(due, 3, 3, 3, 0, 0, 0);
        forcedOutside(due, 8, 0, 1, 0, 0, 0);
        forcedOutside(due, MAX, MAX, 7, 0, 0, 0);
        forcedOutside(due, MIN, MIN, 5, 0, 0, 0);
        due.all("1 and 8 together", new long[] {forced(0, 0, 1, 0, 0, 0), forced(3, 3, 2, 0, 0, 0)}, 0, 5);
    }

    @Edge("how k of these n voted (counts of 3 of them, no more than SUMS)")
    static void promise32_knownTooFewOrTooMany(Due due) {
        for (int place = 3; place < 6; place++) {
            for (int wrong : new int[] {-1, 3, 8, MIN, MAX}) {
                forcedOutside(due, with(place, wrong, 2, 2, 2, 0, 0, 0));
            }
        }
        due.all("none, some, all of one", new long[] {forced(2, 2, 2, 0, 0, 0), forced(2, 2, 2, 1, 0, 0), forced(2, 2, 2, 2, 0, 0)},
            4, 3, 2);
    }

    @Edge("all of them but those of the choice that most of them have.")
    static void promise32_nobodyToAsk(Due due) {
        due.all("all are known", new long[] {forced(1, 0, 0, 1, 0, 0), forced(3, 3, 2, 3, 3, 2), forced(0, 0, 8, 0, 0, 8)}, 0, 0, 0);
        due.all("one choice is left", new long[] {forced(3, 3, 2, 0, 3, 2), forced(3, 3, 2, 3, 3, 1), forced(0, 5, 0, 0, 1, 0)}, 0, 0, 0);
    }

    @Edge("all of them but those of the choice that most of them have.")
    static void promise32_mostOfThoseNotKnown(Due due) {
        due.all("each in turn has most", new long[] {forced(4, 3, 1, 0, 0, 0), forced(3, 4, 1, 0, 0, 0), forced(1, 3, 4, 0, 0, 0)}, 4, 4, 4);
        due.all("two have alike", new long[] {forced(3, 3, 1, 0, 0, 0), forced(3, 1, 3, 0, 0, 0), forced(1, 3, 3, 0, 0, 0)}, 4, 4, 4);
        due.is("not the most of all that voted", forced(5, 2, 1, 4, 0, 0), 2);
    }

    // ---- 33 count

    @Edge("0 ROWS, 1 signs, 2 H, 3 NEED, 4 CLOSE, 5 ROWS of COPY, 10 to 14 ROWS that are 0 to 4. OUTSIDE.")
    static void promise33_whatIsNone(Due due) {
        for (int what : new int[] {-1, 6, 7, 8, 9, 15, 16, MIN, MAX}) {
            Twins.refusedNew(due, "what " + what, OUTSIDE, x -> x.count(what));
            Twins.refusedFull(due, "what " + what, OUTSIDE, x -> x.count(what));
        }
    }

    @Edge("0 ROWS, 1 signs, 2 H, 3 NEED, 4 CLOSE, 5 ROWS of COPY, 10 to 14 ROWS that are 0 to 4. OUTSIDE.")
    static void promise33_empty(Due due) {
        WallCount x = new WallCount();
        due.all("at first", new long[] {x.count(0), x.count(1), x.count(2), x.count(3), x.count(4), x.count(5)}, 0, 0, 4, 1, 100, 0);
        due.each("of each kind", 0, x.count(10), x.count(11), x.count(12), x.count(13), x.count(14));
    }

    @Edge("0 ROWS, 1 signs, 2 H, 3 NEED, 4 CLOSE, 5 ROWS of COPY, 10 to 14 ROWS that are 0 to 4. OUTSIDE.")
    static void promise33_full(Due due) {
        WallCount x = Twins.full();
        due.all("all are full", new long[] {x.count(0), x.count(1), x.count(5)}, 30, 40, 30);
        due.all("twelve count, the others are old", new long[] {x.count(10), x.count(11), x.count(12), x.count(13), x.count(14)},
            12, 0, 0, 0, 18);
        x.close(0);
        due.all("all but the first are late", new long[] {x.count(10), x.count(11), x.count(12), x.count(13), x.count(14)},
            1, 29, 0, 0, 0);
        x.close(999);
        due.all("greatest CLOSE", new long[] {x.count(4), x.count(11)}, 999, 0);
        x.wipe();
        Twins.say(x, "a>120");
        x.rule();
        due.all("all are barred", new long[] {x.count(1), x.count(10), x.count(11), x.count(12), x.count(13), x.count(14)},
            0, 0, 0, 0, 30, 0);
    }

    @Edge("0 ROWS, 1 signs, 2 H, 3 NEED, 4 CLOSE, 5 ROWS of COPY, 10 to 14 ROWS that are 0 to 4. OUTSIDE.")
    static void promise33_allSpoilt(Due due) {
        WallCount x = new WallCount();
        for (int i = 0; i < 30; i++) {
            x.row(i % 12, 5, 5, 1);
        }
        due.all("all are spoilt", new long[] {x.count(10), x.count(11), x.count(12), x.count(13), x.count(14)}, 0, 0, 30, 0, 0);
    }

    @Edge("0 ROWS, 1 signs, 2 H, 3 NEED, 4 CLOSE, 5 ROWS of COPY, 10 to 14 ROWS that are 0 to 4. OUTSIDE.")
    static void promise33_leastAndGreatestKey(Due due) {
        WallCount x = new WallCount();
        x.key(3, 0, 0, 0);
        due.all("least H, greatest NEED", new long[] {x.count(2), x.count(3)}, 1, 3);
        x.key(1, 5002, 5002, 5002);
        due.all("greatest c0, least NEED", new long[] {x.count(2), x.count(3)}, 2502, 1);
    }

    @Edge("They change nothing.")
    static void promise33_refusedOnesChangeNothing(Due due) {
        Twins.refusedSome(due, "one call of each kind, all refused", 24, BuyersEdgesTest::manyRefused);
        Twins.refusedFull(due, "one call of each kind, all refused", 24, BuyersEdgesTest::manyRefused);
    }

    /** How many of these calls are refused: all that are named by a refusal. */
    private static long manyRefused(WallCount x) {
        long[] answers = {x.key(1, 2, 0, 0), x.holder(6, 0), x.seal(5003, 0, 0), x.open(0, 1), x.weight(1, 4), x.opened(1, 1, 2, 0),
            x.prove(2, 0, 0, 0, 0, 0), x.voter(12, 0, 1), x.voter(0, 2, 2), x.say(32), x.may(12), x.close(1000), x.row(12, 1, 1, 1),
            x.row(0, 1, 1, 1000), x.attach(0, 1, 1, 1, 1), x.cast(0, 2, 1, 1, 1, 1, 1), x.ofRow(30, 0), x.find(0, 31), x.tally(3),
            x.copy(9973), x.ask(41, 0, 0), x.drawn(0, 2, 1), x.sure(1, 0), x.forced(9, 0, 0, 0, 0, 0)};
        long refused = 0;
        for (long answer : answers) {
            refused += answer >= -5 && answer <= -1 ? 1 : 0;
        }
        return refused;
    }
}
