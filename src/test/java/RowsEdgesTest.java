/** The edges that promises 17 to 25 name: THE WALL and COPY. The numbers were worked out apart from the class. */
public final class RowsEdgesTest {
    private static final int UNKNOWN = -1, OUTSIDE = -2, STATE = -3, FULL = -4, NONE = -6;
    private static final int MIN = Integer.MIN_VALUE, MAX = Integer.MAX_VALUE;
    private static final int COUNTS = 0, LATE = 1, SPOILT = 2, BARRED = 3, OLD = 4;

    public static void main(String[] args) throws Exception {
        Edges.run(RowsEdgesTest.class, 17, 25);
    }

    private static long[] kinds(WallCount x) {
        long[] kinds = new long[x.count(0)];
        for (int row = 0; row < kinds.length; row++) {
            kinds[row] = x.ofRow(row, 4);
        }
        return kinds;
    }

    private static long[] rowOf(WallCount x, int row) {
        return new long[] {x.ofRow(row, 0), x.ofRow(row, 1), x.ofRow(row, 2), x.ofRow(row, 3), x.ofRow(row, 4), x.ofRow(row, 5),
            x.ofRow(row, 6)};
    }

    private static int castAt(WallCount x, int voter, int hour) {
        return x.cast(voter, 1, hour, 1, 2, 3, 4);
    }

    // ---- 17 close

    @Edge("1 LATE (its hour is behind CLOSE: 0 to 999, 100 at first)")
    static void promise17_hourTooSmallOrTooLarge(Due due) {
        for (int hour : new int[] {-1, 1000, MIN, MAX}) {
            Twins.refusedNew(due, "hour " + hour, OUTSIDE, x -> x.close(hour));
            Twins.refusedSome(due, "hour " + hour, OUTSIDE, x -> x.close(hour));
        }
        WallCount x = new WallCount();
        due.all("100 at first, then least and greatest", new long[] {x.close(0), x.close(999), x.close(5)}, 100, 0, 999);
    }

    @Edge("CLOSE: which it was. OUTSIDE.")
    static void promise17_leastAndGreatestClose(Due due) {
        WallCount x = new WallCount();
        castAt(x, 0, 0);
        castAt(x, 1, 1);
        castAt(x, 2, 998);
        castAt(x, 3, 999);
        x.close(0);
        due.all("CLOSE 0", kinds(x), COUNTS, LATE, LATE, LATE);
        x.close(998);
        due.all("CLOSE 998", kinds(x), COUNTS, COUNTS, COUNTS, LATE);
        x.close(999);
        due.all("CLOSE 999", kinds(x), COUNTS, COUNTS, COUNTS, COUNTS);
    }

    // ---- 18 row

    @Edge("A ROW, its pair and hour; its PROOF is 0, 0, 0, 0: its number. UNKNOWN; OUTSIDE; FULL.")
    static void promise18_noSuchVoter(Due due) {
        for (int voter : new int[] {-1, 12, MIN, MAX}) {
            Twins.refusedSome(due, "VOTER " + voter, UNKNOWN, x -> x.row(voter, 1, 1, 1));
        }
        WallCount x = new WallCount();
        due.all("the first and the last", new long[] {x.row(0, 1, 1, 1), x.row(11, 1, 1, 1)}, 0, 1);
        due.all("as they came", new long[] {x.ofRow(0, 0), x.ofRow(1, 0)}, 0, 11);
    }

    @Edge("a pair A, B (0 to 1000000 each: as they came)")
    static void promise18_pairTooSmallOrTooLarge(Due due) {
        for (int wrong : new int[] {-1, 1000001, MIN, MAX}) {
            Twins.refusedSome(due, "A " + wrong, OUTSIDE, x -> x.row(0, wrong, 1, 1));
            Twins.refusedSome(due, "B " + wrong, OUTSIDE, x -> x.row(0, 1, wrong, 1));
        }
    }

    @Edge("a pair A, B (0 to 1000000 each: as they came)")
    static void promise18_pairAsItCame(Due due) {
        WallCount x = new WallCount();
        int[] numbers = {0, 1, 10006, 10007, 10008, 999999, 1000000};
        for (int i = 0; i < numbers.length; i++) {
            due.is("its number", x.row(0, numbers[i], numbers[numbers.length - 1 - i], 1), i);
            due.is("A as it came", x.ofRow(i, 1), numbers[i]);
            due.is("B as it came", x.ofRow(i, 2), numbers[numbers.length - 1 - i]);
        }
    }

    @Edge("an hour (0 to 999)")
    static void promise18_hourTooSmallOrTooLarge(Due due) {
        for (int hour : new int[] {-1, 1000, MIN, MAX}) {
            Twins.refusedSome(due, "hour " + hour, OUTSIDE, x -> x.row(0, 1, 1, hour));
        }
        WallCount x = new WallCount();
        x.row(0, 1, 1, 0);
        x.row(0, 1, 1, 999);
        due.all("least and greatest", new long[] {x.ofRow(0, 3), x.ofRow(1, 3)}, 0, 999);
    }

    @Edge("THE WALL: ROWS, 30 at most, numbered from 0 on")
    static void promise18_full(Due due) {
        WallCount x = new WallCount();
        for (int i = 0; i < 30; i++) {
            due.is("its number", x.row(i % 12, i, i, i), i);
        }
        due.each("one more", FULL, x.row(0, 1, 1, 1), x.row(11, 0, 0, 0));
        due.all("the last is the thirtieth", new long[] {x.count(0), x.ofRow(29, 1), x.ofRow(30, 1)}, 30, 29, UNKNOWN);
        Twins.refusedFull(due, "one more", FULL, y -> y.row(0, 1, 1, 1));
    }

    @Edge("Calls that are refused answer, the first of these that fits")
    static void promise18_firstThatFits(Due due) {
        Twins.refusedSome(due, "UNKNOWN before OUTSIDE", UNKNOWN, x -> x.row(12, -1, -1, -1));
        Twins.refusedFull(due, "UNKNOWN before FULL", UNKNOWN, x -> x.row(-1, 1, 1, 1));
        Twins.refusedFull(due, "OUTSIDE before FULL, A", OUTSIDE, x -> x.row(0, -1, 1, 1));
        Twins.refusedFull(due, "OUTSIDE before FULL, B", OUTSIDE, x -> x.row(0, 1, 1000001, 1));
        Twins.refusedFull(due, "OUTSIDE before FULL, hour", OUTSIDE, x -> x.row(0, 1, 1, 1000));
    }

    @Edge("A ROW, its pair and hour; its PROOF is 0, 0, 0, 0: its number.")
    static void promise18_proofOfZeros(Due due) {
        WallCount x = new WallCount();
        x.row(0, 3, 2203, 1);
        x.row(1, 3, 2204, 1);
        x.row(2, 4, 16, 1);
        due.all("zeros hold for the first pair alone", kinds(x), COUNTS, SPOILT, SPOILT);
        due.all("none of them was told", new long[] {x.attach(0, 0, 0, 0, 0), x.attach(1, 0, 0, 0, 0)}, 1, 1);
        due.all("the same zeros, told", kinds(x), COUNTS, SPOILT, SPOILT);
    }

    @Edge("A ROW, its pair and hour; its PROOF is 0, 0, 0, 0: its number.")
    static void promise18_proofOfZerosBehindOtherProofs(Due due) {
        WallCount x = new WallCount();
        due.is("a PROOF that holds is asked about", x.check(4, 4, 471, 473, 4532, 3), 1);
        x.row(0, 4, 4, 1);
        due.is("one is made", x.prove(0, 1, 2, 4532, 3, 0), 471);
        x.row(1, 4, 4, 1);
        x.cast(2, 0, 1, 1, 2, 4532, 3);
        x.row(3, 4, 4, 1);
        x.attach(3, 471, 473, 4532, 3);
        x.row(4, 4, 4, 1);
        due.all("no other call's PROOF goes over to a ROW", kinds(x), SPOILT, SPOILT, COUNTS, COUNTS, SPOILT);
    }

    // ---- 19 attach

    @Edge("The PROOF of a ROW: 1. UNKNOWN; OUTSIDE; STATE: it has one told, or was made by cast().")
    static void promise19_noSuchRow(Due due) {
        Twins.refusedNew(due, "no ROW at all", UNKNOWN, x -> x.attach(0, 0, 0, 0, 0));
        for (int row : new int[] {-1, 6, 29, 30, MIN, MAX}) {
            Twins.refusedSome(due, "ROW " + row, UNKNOWN, x -> x.attach(row, 1, 1, 1, 1));
        }
        Twins.refusedFull(due, "ROW 30 of thirty", UNKNOWN, x -> x.attach(30, 1, 1, 1, 1));
        WallCount x = new WallCount();
        for (int i = 0; i < 30; i++) {
            x.row(0, 4, 4, 1);
        }
        due.all("the first and the last", new long[] {x.attach(0, 0, 0, 0, 0), x.attach(29, 0, 0, 0, 0)}, 1, 1);
    }

    @Edge("c0, z0, c1, z1 of its PROOF (0 to 1000000)")
    static void promise19_numberTooSmallOrTooLarge(Due due) {
        for (int wrong : new int[] {-1, 1000001, MIN, MAX}) {
            Twins.refusedSome(due, "c0 " + wrong, OUTSIDE, x -> x.attach(3, wrong, 1, 1, 1));
            Twins.refusedSome(due, "z0 " + wrong, OUTSIDE, x -> x.attach(3, 1, wrong, 1, 1));
            Twins.refusedSome(due, "c1 " + wrong, OUTSIDE, x -> x.attach(3, 1, 1, wrong, 1));
            Twins.refusedSome(due, "z1 " + wrong, OUTSIDE, x -> x.attach(3, 1, 1, 1, wrong));
        }
        WallCount x = new WallCount();
        x.row(0, 4, 4, 1);
        x.row(0, 4, 4, 1);
        due.is("least", x.attach(0, 0, 0, 0, 0), 1);
        due.is("greatest", x.attach(1, 1000000, 1000000, 1000000, 1000000), 1);
    }

    @Edge("STATE: it has one told, or was made by cast().")
    static void promise19_hasOneTold(Due due) {
        WallCount x = new WallCount();
        x.row(0, 4, 4, 1);
        x.row(1, 4, 4, 1);
        due.is("a wrong one", x.attach(0, 471, 473, 4532, 4), 1);
        due.is("the right one comes too late", x.attach(0, 471, 473, 4532, 3), STATE);
        due.is("the right one", x.attach(1, 471, 473, 4532, 3), 1);
        due.is("a wrong one comes too late", x.attach(1, 0, 0, 0, 0), STATE);
        due.all("the first told stands", kinds(x), SPOILT, COUNTS);
        x.row(2, 3, 2203, 1);
        due.all("zeros are told as well", new long[] {x.attach(2, 0, 0, 0, 0), x.attach(2, 1, 1, 1, 1)}, 1, STATE);
        due.is("zeros stand", x.ofRow(2, 4), COUNTS);
    }

    @Edge("STATE: it has one told, or was made by cast().")
    static void promise19_madeByCast(Due due) {
        for (int row : new int[] {0, 1, 2, 4, 5}) {
            Twins.refusedSome(due, "ROW " + row, STATE, x -> x.attach(row, 1, 1, 1, 1));
        }
        WallCount x = new WallCount();
        x.cast(0, 0, 1, 0, 0, 0, 0);
        due.is("even its own", x.attach(0, 2216, 0, 0, 0), STATE);
        due.is("it stands", x.ofRow(0, 4), COUNTS);
    }

    @Edge("Calls that are refused answer, the first of these that fits")
    static void promise19_firstThatFits(Due due) {
        Twins.refusedSome(due, "UNKNOWN before OUTSIDE", UNKNOWN, x -> x.attach(6, -1, -1, -1, -1));
        Twins.refusedSome(due, "OUTSIDE before STATE, c0", OUTSIDE, x -> x.attach(0, -1, 1, 1, 1));
        Twins.refusedSome(due, "OUTSIDE before STATE, z1", OUTSIDE, x -> x.attach(0, 1, 1, 1, 1000001));
        WallCount x = new WallCount();
        x.row(0, 4, 4, 1);
        due.is("a refused one is not told", x.attach(0, 471, 473, 4532, -1), OUTSIDE);
        due.is("so another can be", x.attach(0, 471, 473, 4532, 3), 1);
    }

    // ---- 20 cast

    @Edge("UNKNOWN; OUTSIDE; FULL.")
    static void promise20_noSuchVoter(Due due) {
        for (int voter : new int[] {-1, 12, MIN, MAX}) {
            Twins.refusedSome(due, "VOTER " + voter, UNKNOWN, x -> x.cast(voter, 1, 1, 1, 1, 1, 1));
        }
    }

    @Edge("A ROW that is sealed and proved as told in one go (m 0 or 1; lots r, w, c, z): its number.")
    static void promise20_numberTooSmallOrTooLarge(Due due) {
        for (int m : new int[] {-1, 2, MIN, MAX}) {
            Twins.refusedSome(due, "m " + m, OUTSIDE, x -> x.cast(0, m, 1, 1, 1, 1, 1));
        }
        for (int hour : new int[] {-1, 1000, MIN, MAX}) {
            Twins.refusedSome(due, "hour " + hour, OUTSIDE, x -> x.cast(0, 1, hour, 1, 1, 1, 1));
        }
        for (int wrong : new int[] {-1, 5003, MIN, MAX}) {
            Twins.refusedSome(due, "r " + wrong, OUTSIDE, x -> x.cast(0, 1, 1, wrong, 1, 1, 1));
            Twins.refusedSome(due, "w " + wrong, OUTSIDE, x -> x.cast(0, 1, 1, 1, wrong, 1, 1));
            Twins.refusedSome(due, "c " + wrong, OUTSIDE, x -> x.cast(0, 1, 1, 1, 1, wrong, 1));
            Twins.refusedSome(due, "z " + wrong, OUTSIDE, x -> x.cast(0, 1, 1, 1, 1, 1, wrong));
        }
    }

    @Edge("A ROW that is sealed and proved as told in one go (m 0 or 1; lots r, w, c, z): its number.")
    static void promise20_leastAndGreatest(Due due) {
        WallCount x = new WallCount();
        x.close(999);
        due.is("all least", x.cast(0, 0, 0, 0, 0, 0, 0), 0);
        due.is("all greatest", x.cast(11, 1, 999, 5002, 5002, 5002, 5002), 1);
        due.all("the first", rowOf(x, 0), 0, 1, 1, 0, COUNTS, 7882, 17889);
        due.all("the last", rowOf(x, 1), 11, 2502, 1, 999, COUNTS, 711, 18977);
    }

    @Edge("THE WALL: ROWS, 30 at most, numbered from 0 on")
    static void promise20_full(Due due) {
        WallCount x = new WallCount();
        for (int i = 0; i < 30; i++) {
            due.is("its number", x.cast(i % 12, 0, 1, i, 1, 1, 1), i);
        }
        due.is("one more", x.cast(0, 0, 1, 1, 1, 1, 1), FULL);
        due.is("nor by row()", x.row(0, 1, 1, 1), FULL);
        due.is("thirty still", x.count(0), 30);
        Twins.refusedFull(due, "one more", FULL, y -> y.cast(0, 1, 1, 1, 1, 1, 1));
        WallCount mixed = new WallCount();
        for (int i = 0; i < 30; i++) {
            due.is("both ways mixed", i % 2 == 0 ? mixed.row(0, 1, 1, 1) : mixed.cast(0, 1, 1, 1, 1, 1, 1), i);
        }
        due.is("one more of both ways", mixed.cast(0, 1, 1, 1, 1, 1, 1), FULL);
    }

    @Edge("Calls that are refused answer, the first of these that fits")
    static void promise20_firstThatFits(Due due) {
        Twins.refusedSome(due, "UNKNOWN before OUTSIDE", UNKNOWN, x -> x.cast(12, 2, -1, -1, -1, -1, -1));
        Twins.refusedFull(due, "UNKNOWN before FULL", UNKNOWN, x -> x.cast(-1, 1, 1, 1, 1, 1, 1));
        Twins.refusedFull(due, "OUTSIDE before FULL, m", OUTSIDE, x -> x.cast(0, 2, 1, 1, 1, 1, 1));
        Twins.refusedFull(due, "OUTSIDE before FULL, hour", OUTSIDE, x -> x.cast(0, 1, 1000, 1, 1, 1, 1));
        Twins.refusedFull(due, "OUTSIDE before FULL, z", OUTSIDE, x -> x.cast(0, 1, 1, 1, 1, 1, 5003));
    }

    // ---- 21 ofRow

    @Edge("Of a ROW: 0 VOTER, 1 A, 2 B, 3 hour, 4 what it is (0 to 4), 5 WORD, 6 HEAD. UNKNOWN; OUTSIDE.")
    static void promise21_noSuchRow(Due due) {
        Twins.refusedNew(due, "no ROW at all", UNKNOWN, x -> x.ofRow(0, 0));
        for (int row : new int[] {-1, 6, 29, 30, MIN, MAX}) {
            Twins.refusedSome(due, "ROW " + row, UNKNOWN, x -> x.ofRow(row, 4));
        }
        Twins.refusedFull(due, "ROW 30 of thirty", UNKNOWN, x -> x.ofRow(30, 6));
    }

    @Edge("Of a ROW: 0 VOTER, 1 A, 2 B, 3 hour, 4 what it is (0 to 4), 5 WORD, 6 HEAD. UNKNOWN; OUTSIDE.")
    static void promise21_whatTooSmallOrTooLarge(Due due) {
        for (int what : new int[] {-1, 7, MIN, MAX}) {
            Twins.refusedSome(due, "what " + what, OUTSIDE, x -> x.ofRow(0, what));
        }
    }

    @Edge("Calls that are refused answer, the first of these that fits")
    static void promise21_unknownBeforeOutside(Due due) {
        WallCount x = Twins.some();
        due.each("both are wrong", UNKNOWN, x.ofRow(6, 7), x.ofRow(-1, -1), x.ofRow(MAX, MIN));
    }

    @Edge("1 LATE (its hour is behind CLOSE: 0 to 999, 100 at first)")
    static void promise21_lateBehindClose(Due due) {
        WallCount x = new WallCount();
        castAt(x, 0, 99);
        castAt(x, 1, 100);
        castAt(x, 2, 101);
        due.all("CLOSE is 100 at first", kinds(x), COUNTS, COUNTS, LATE);
        x.close(98);
        due.all("CLOSE 98", kinds(x), LATE, LATE, LATE);
        x.close(101);
        due.all("CLOSE 101", kinds(x), COUNTS, COUNTS, COUNTS);
        x.close(1000);
        due.all("a refused CLOSE changes nothing", kinds(x), COUNTS, COUNTS, COUNTS);
    }

    @Edge("else 2 SPOILT (the pair is not RIGHT, a number of the PROOF is Q or more, or it does not HOLD)")
    static void promise21_spoiltByItsPair(Due due) {
        WallCount x = new WallCount();
        // Zeros make a MIX of 0 for all of these; only whether the pair is RIGHT tells them apart.
        x.row(0, 3, 2203, 1);
        x.row(1, 5, 2141, 1);
        x.row(2, 1, 2265, 1);
        x.row(3, 0, 2296, 1);
        x.row(4, 10006, 2296, 1);
        x.row(5, 3, 12209, 1);
        x.row(6, 10002, 7423, 1);
        due.all("by the pair", kinds(x), COUNTS, SPOILT, SPOILT, SPOILT, SPOILT, SPOILT, COUNTS);
    }

    @Edge("else 2 SPOILT (the pair is not RIGHT, a number of the PROOF is Q or more, or it does not HOLD)")
    static void promise21_spoiltByANumberOfQOrMore(Due due) {
        WallCount x = new WallCount();
        int[] good = {2644, 2358, 5002, 5002};
        x.row(11, 2502, 2502, 1);
        x.attach(0, good[0], good[1], good[2], good[3]);
        for (int place = 0; place < 4; place++) {
            int[] p = good.clone();
            p[place] += 5003;
            x.row(place, 2502, 2502, 1);
            due.is("it is taken", x.attach(1 + place, p[0], p[1], p[2], p[3]), 1);
        }
        due.all("Q less 1 is fine, Q more is not", kinds(x), COUNTS, SPOILT, SPOILT, SPOILT, SPOILT);
        x.row(4, 1, 4, 1);
        due.is("Q itself for a 0", x.attach(5, 5003, 0, 1117, 0), 1);
        x.row(5, 1, 4, 1);
        due.is("the 0", x.attach(6, 0, 0, 1117, 0), 1);
        due.all("Q is spoilt, 0 is not", new long[] {x.ofRow(5, 4), x.ofRow(6, 4)}, SPOILT, COUNTS);
    }

    @Edge("else 2 SPOILT (the pair is not RIGHT, a number of the PROOF is Q or more, or it does not HOLD)")
    static void promise21_spoiltByItsProof(Due due) {
        WallCount x = new WallCount();
        x.row(0, 4, 4, 1);
        x.row(1, 4, 4, 1);
        x.row(2, 4, 16, 1);
        x.row(3, 4, 64, 1);
        x.attach(0, 471, 473, 4532, 3);
        x.attach(1, 471, 473, 4532, 2);
        x.attach(2, 471, 473, 4532, 3);
        x.attach(3, 2106, 3, 2897, 2899);
        due.all("the right one, one less, another pair, a SEAL of 2", kinds(x), COUNTS, SPOILT, SPOILT, SPOILT);
    }

    @Edge("else 3 BARRED (its VOTER may not)")
    static void promise21_barredAsTheVoterIsNow(Due due) {
        WallCount x = new WallCount();
        castAt(x, 0, 1);
        castAt(x, 1, 1);
        x.voter(1, 2, 1);
        due.all("without a text all may", kinds(x), COUNTS, COUNTS);
        Twins.say(x, "b=0");
        due.all("signs are no rule yet", kinds(x), COUNTS, COUNTS);
        x.rule();
        due.all("by the text", kinds(x), COUNTS, BARRED);
        x.voter(1, 2, 0);
        due.all("and back", kinds(x), COUNTS, COUNTS);
    }

    @Edge("else 4 OLD (a ROW of that VOTER with a greater number is none of 1 to 3), else 0: it COUNTS.")
    static void promise21_oldByANumberNotByAnHour(Due due) {
        WallCount x = new WallCount();
        castAt(x, 0, 50);
        castAt(x, 0, 10);
        due.all("the greater number counts, though its hour is less", kinds(x), OLD, COUNTS);
        castAt(x, 0, 10);
        due.all("two are old", kinds(x), OLD, OLD, COUNTS);
        castAt(x, 1, 10);
        due.all("another VOTER's makes none old", kinds(x), OLD, OLD, COUNTS, COUNTS);
    }

    @Edge("else 4 OLD (a ROW of that VOTER with a greater number is none of 1 to 3), else 0: it COUNTS.")
    static void promise21_oldByOneJustInTime(Due due) {
        WallCount x = new WallCount();
        castAt(x, 0, 1);
        castAt(x, 0, 100);
        due.all("at CLOSE, the later one is in time", kinds(x), OLD, COUNTS);
        x.close(99);
        due.all("behind CLOSE, it is not", kinds(x), COUNTS, LATE);
        x.close(0);
        due.all("nor is the first", kinds(x), LATE, LATE);
    }

    @Edge("else 4 OLD (a ROW of that VOTER with a greater number is none of 1 to 3), else 0: it COUNTS.")
    static void promise21_oldNotByLateOrSpoiltOnes(Due due) {
        WallCount x = new WallCount();
        castAt(x, 0, 1);
        castAt(x, 0, 101);
        x.row(0, 4, 4, 1);
        due.all("late and spoilt ones make none old", kinds(x), COUNTS, LATE, SPOILT);
        x.attach(2, 471, 473, 4532, 3);
        due.all("mended, it does", kinds(x), OLD, LATE, COUNTS);
        x.close(101);
        due.all("in time, it is old itself", kinds(x), OLD, OLD, COUNTS);
        x.close(0);
        due.all("all are late", kinds(x), LATE, LATE, LATE);
    }

    @Edge("Of a ROW: 1 LATE")
    static void promise21_firstThatFits(Due due) {
        WallCount x = new WallCount();
        x.row(0, 0, 0, 101);
        x.row(0, 0, 0, 1);
        castAt(x, 0, 101);
        castAt(x, 0, 1);
        castAt(x, 0, 2);
        Twins.say(x, "b=1");
        x.rule();
        due.all("LATE before SPOILT and BARRED, SPOILT before BARRED, BARRED before OLD", kinds(x), LATE, SPOILT, LATE, BARRED, BARRED);
        x.voter(0, 2, 1);
        due.all("once the VOTER may", kinds(x), LATE, SPOILT, LATE, OLD, COUNTS);
    }

    @Edge("else 4 OLD (a ROW of that VOTER with a greater number is none of 1 to 3), else 0: it COUNTS.")
    static void promise21_oldOnAFullWall(Due due) {
        WallCount x = new WallCount();
        for (int i = 0; i < 30; i++) {
            castAt(x, 7, 1);
        }
        due.all("the last of thirty counts", new long[] {x.count(14), x.count(10), x.ofRow(28, 4), x.ofRow(29, 4)}, 29, 1, OLD, COUNTS);
    }

    @Edge("for VOTER, A, B, hour in order: WORD times 131 and the number, left over by 9973.")
    static void promise21_wordWrapsAround(Due due) {
        WallCount x = new WallCount();
        int[][] rows = {{0, 0, 65, 895}, {0, 0, 65, 894}, {0, 0, 66, 764}, {0, 0, 0, 0}, {11, 0, 0, 0}, {0, 1000000, 0, 0},
            {0, 0, 1000000, 0}, {0, 0, 0, 999}, {11, 1000000, 1000000, 999}};
        int[] words = {0, 9972, 0, 563, 6497, 705, 5208, 1562, 2310};
        for (int i = 0; i < rows.length; i++) {
            x.row(rows[i][0], rows[i][1], rows[i][2], rows[i][3]);
            due.is("WORD of ROW " + i, x.ofRow(i, 5), words[i]);
        }
    }

    @Edge("for each ROW up to it: HEAD times 10007 and its WORD, left over by 999983.")
    static void promise21_headWrapsAround(Due due) {
        WallCount zero = new WallCount();
        WallCount most = new WallCount();
        for (int i = 0; i < 30; i++) {
            zero.row(0, 0, 65, 895);
            most.row(0, 0, 65, 894);
        }
        int[] rows = {0, 1, 2, 28, 29};
        int[] zeroHeads = {10007, 141749, 506349, 496882, 382698};
        int[] mostHeads = {19979, 943208, 852874, 784003, 661358};
        for (int i = 0; i < rows.length; i++) {
            due.is("HEAD of least WORDS", zero.ofRow(rows[i], 6), zeroHeads[i]);
            due.is("HEAD of greatest WORDS", most.ofRow(rows[i], 6), mostHeads[i]);
        }
        WallCount x = new WallCount();
        x.row(0, 0, 377, 0);
        x.row(0, 0, 54, 2);
        due.is("just over: 0", x.ofRow(1, 6), 0);
        WallCount y = new WallCount();
        y.row(0, 0, 377, 0);
        y.row(0, 0, 54, 1);
        due.is("just not over", y.ofRow(1, 6), 999982);
    }

    @Edge("HEAD behind a ROW: from 1 on, for each ROW up to it")
    static void promise21_headStandsAsTheWallGrows(Due due) {
        WallCount x = new WallCount();
        x.row(0, 0, 65, 894);
        due.is("at first", x.ofRow(0, 6), 19979);
        x.row(0, 0, 65, 894);
        x.row(5, 5, 5, 5);
        x.attach(0, 1, 1, 1, 1);
        x.close(0);
        due.all("no later ROW, no PROOF and no CLOSE changes it", new long[] {x.ofRow(0, 6), x.ofRow(1, 6)}, 19979, 943208);
    }

    // ---- 22 find

    @Edge("ROWS with a WORD: the first one from a ROW on; NONE. OUTSIDE: the ROW 0 to 30.")
    static void promise22_rowTooSmallOrTooLarge(Due due) {
        for (int from : new int[] {-1, 31, MIN, MAX}) {
            Twins.refusedNew(due, "ROW " + from, OUTSIDE, x -> x.find(563, from));
            Twins.refusedFull(due, "ROW " + from, OUTSIDE, x -> x.find(563, from));
        }
    }

    @Edge("ROWS with a WORD: the first one from a ROW on; NONE.")
    static void promise22_emptyWall(Due due) {
        WallCount x = new WallCount();
        due.each("no ROW", NONE, x.find(563, 0), x.find(0, 0), x.find(563, 1), x.find(563, 30));
    }

    @Edge("ROWS with a WORD: the first one from a ROW on; NONE.")
    static void promise22_fullWall(Due due) {
        WallCount x = new WallCount();
        for (int i = 0; i < 30; i++) {
            x.row(i == 29 ? 11 : 0, 0, 0, 0);
        }
        due.all("the first one", new long[] {x.find(563, 0), x.find(563, 1), x.find(563, 28), x.find(563, 29), x.find(563, 30)},
            0, 1, 28, NONE, NONE);
        due.all("the last one", new long[] {x.find(6497, 0), x.find(6497, 29), x.find(6497, 30)}, 29, 29, NONE);
    }

    @Edge("ROWS with a WORD: the first one from a ROW on; NONE.")
    static void promise22_behindTheLast(Due due) {
        WallCount x = new WallCount();
        x.row(0, 0, 0, 0);
        x.row(11, 0, 0, 0);
        x.row(0, 0, 0, 0);
        due.all("from each ROW on", new long[] {x.find(563, 0), x.find(563, 1), x.find(563, 2), x.find(563, 3), x.find(563, 4)},
            0, 2, 2, NONE, NONE);
        due.each("no such WORD", NONE, x.find(562, 0), x.find(564, 0));
    }

    @Edge("ROWS with a WORD: the first one from a ROW on; NONE.")
    static void promise22_leastAndGreatestWord(Due due) {
        WallCount x = new WallCount();
        x.row(0, 0, 65, 894);
        x.row(0, 0, 65, 895);
        x.row(0, 0, 66, 764);
        due.all("9972 and 0", new long[] {x.find(9972, 0), x.find(0, 0), x.find(0, 2)}, 0, 1, 2);
        due.each("what no WORD can be", NONE, x.find(9973, 0), x.find(-1, 0), x.find(-6, 0), x.find(MIN, 0), x.find(MAX, 0));
        due.is("the ROW is looked at all the same", x.find(9973, 31), OUTSIDE);
    }

    // ---- 23 tally

    @Edge("TALLY: A (what = 0), B (1), how many COUNT (2). OUTSIDE.")
    static void promise23_whatTooSmallOrTooLarge(Due due) {
        for (int what : new int[] {-1, 3, MIN, MAX}) {
            Twins.refusedNew(due, "what " + what, OUTSIDE, x -> x.tally(what));
            Twins.refusedSome(due, "what " + what, OUTSIDE, x -> x.tally(what));
        }
    }

    @Edge("TALLY: the pair that is the product of all that COUNT (1, 1 without any).")
    static void promise23_withoutAny(Due due) {
        WallCount x = new WallCount();
        due.all("no ROW", new long[] {x.tally(0), x.tally(1), x.tally(2)}, 1, 1, 0);
        castAt(x, 0, 101);
        due.all("a late one", new long[] {x.tally(0), x.tally(1), x.tally(2)}, 1, 1, 0);
        x.row(0, 4, 4, 1);
        due.all("a spoilt one", new long[] {x.tally(0), x.tally(1), x.tally(2)}, 1, 1, 0);
        castAt(x, 0, 1);
        due.all("one that counts", new long[] {x.tally(0), x.tally(1), x.tally(2)}, 4, 16, 1);
        Twins.say(x, "b=1");
        x.rule();
        due.all("a barred one", new long[] {x.tally(0), x.tally(1), x.tally(2)}, 1, 1, 0);
    }

    @Edge("TALLY: the pair that is the product of all that COUNT (1, 1 without any).")
    static void promise23_productWrapsAround(Due due) {
        WallCount x = new WallCount();
        x.row(0, 10002, 7423, 5);
        due.all("one", new long[] {x.tally(0), x.tally(1), x.tally(2)}, 10002, 7423, 1);
        x.row(1, 7498, 10002, 5);
        due.all("two", new long[] {x.tally(0), x.tally(1), x.tally(2)}, 2538, 2913, 2);
        WallCount all = new WallCount();
        for (int i = 0; i < 30; i++) {
            all.cast(i % 12, i % 2, 1, i % 12 * 400, 1, 1, 1);
        }
        due.all("thirty ROWS, twelve count", new long[] {all.tally(0), all.tally(1), all.tally(2)}, 9737, 4857, 12);
        WallCount most = new WallCount();
        for (int i = 0; i < 12; i++) {
            most.cast(i, 1, 1, 5002, 1, 1, 1);
        }
        due.all("the greatest lots", new long[] {most.tally(0), most.tally(1), most.tally(2)}, 6352, 1, 12);
    }

    // ---- 24 copy

    @Edge("A ROW's WORD for COPY: how many. OUTSIDE: 0 to 9972; FULL.")
    static void promise24_wordTooSmallOrTooLarge(Due due) {
        for (int word : new int[] {-1, 9973, MIN, MAX}) {
            Twins.refusedNew(due, "WORD " + word, OUTSIDE, x -> x.copy(word));
            Twins.refusedSome(due, "WORD " + word, OUTSIDE, x -> x.copy(word));
        }
        WallCount x = new WallCount();
        due.all("least and greatest", new long[] {x.copy(0), x.copy(9972)}, 1, 2);
    }

    @Edge("COPY: ROWS of another wall, told by their WORDS, 30 at most.")
    static void promise24_full(Due due) {
        WallCount x = new WallCount();
        for (int many = 1; many <= 30; many++) {
            due.is("how many", x.copy(many), many);
        }
        due.each("one more", FULL, x.copy(0), x.copy(9972));
        due.is("thirty still", x.count(5), 30);
        due.is("THE WALL is not full", x.row(0, 1, 1, 1), 0);
        Twins.refusedFull(due, "one more", FULL, y -> y.copy(1));
    }

    @Edge("Calls that are refused answer, the first of these that fits")
    static void promise24_outsideBeforeFull(Due due) {
        Twins.refusedFull(due, "9973", OUTSIDE, x -> x.copy(9973));
        Twins.refusedFull(due, "-1", OUTSIDE, x -> x.copy(-1));
    }

    // ---- 25 parted

    @Edge("PARTED: the first ROW at which COPY and THE WALL are not alike; none: one is the beginning of the other.")
    static void promise25_oneIsEmpty(Due due) {
        WallCount both = new WallCount();
        due.is("both are empty", both.parted(), NONE);
        WallCount wall = new WallCount();
        WallCount copy = new WallCount();
        for (int i = 0; i < 30; i++) {
            wall.row(0, 0, 0, 0);
            copy.copy(5);
            due.is("COPY is empty", wall.parted(), NONE);
            due.is("THE WALL is empty", copy.parted(), NONE);
        }
        copy.copy(9973);
        due.is("a refused WORD changes nothing", copy.parted(), NONE);
        copy.row(0, 0, 0, 0);
        due.is("not empty any more", copy.parted(), 0);
    }

    @Edge("PARTED: the ROW; NONE.")
    static void promise25_bothAreFull(Due due) {
        WallCount alike = new WallCount();
        WallCount last = new WallCount();
        for (int i = 0; i < 30; i++) {
            alike.row(0, 0, 0, 0);
            alike.copy(563);
            last.row(0, 0, 0, 0);
            last.copy(i == 29 ? 564 : 563);
        }
        due.is("alike to the last", alike.parted(), NONE);
        due.is("the last is not", last.parted(), 29);
    }

    @Edge("PARTED: the first ROW at which COPY and THE WALL are not alike; none: one is the beginning of the other.")
    static void promise25_oneIsTheBeginning(Due due) {
        WallCount x = new WallCount();
        x.row(0, 0, 0, 0);
        x.row(0, 0, 65, 895);
        x.copy(563);
        due.is("COPY is shorter", x.parted(), NONE);
        x.copy(0);
        due.is("as long", x.parted(), NONE);
        x.copy(77);
        due.is("COPY is longer", x.parted(), NONE);
        x.row(0, 0, 0, 0);
        due.is("the third is not alike", x.parted(), 2);
        x.row(0, 0, 0, 0);
        x.copy(78);
        due.is("the first one stays", x.parted(), 2);
    }

    @Edge("COPY: ROWS of another wall, told by their WORDS, 30 at most.")
    static void promise25_leastAndGreatestWord(Due due) {
        WallCount x = new WallCount();
        x.row(0, 0, 65, 895);
        x.row(0, 0, 65, 894);
        x.copy(0);
        x.copy(9972);
        due.is("0 and 9972 are alike", x.parted(), NONE);
        WallCount y = new WallCount();
        y.row(0, 0, 65, 895);
        y.copy(9972);
        due.is("0 and 9972 are not", y.parted(), 0);
        WallCount z = new WallCount();
        z.row(0, 0, 66, 764);
        z.copy(0);
        due.is("another ROW of the same WORD is alike", z.parted(), NONE);
    }
}
