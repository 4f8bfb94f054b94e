/** The edges that promises 1 to 8 name. The numbers were worked out apart from the class. */
public final class KeysEdgesTest {
    private static final int UNKNOWN = -1, OUTSIDE = -2, STATE = -3, NO = -5, NONE = -6;
    private static final int MIN = Integer.MIN_VALUE, MAX = Integer.MAX_VALUE;

    public static void main(String[] args) throws Exception {
        Edges.run(KeysEdgesTest.class, 1, 8);
    }

    private static WallCount withKey(int need, int c0, int c1, int c2) {
        WallCount x = new WallCount();
        x.key(need, c0, c1, c2);
        return x;
    }

    private static long[] parts(WallCount x) {
        return new long[] {x.holder(1, 0), x.holder(2, 0), x.holder(3, 0), x.holder(4, 0), x.holder(5, 0)};
    }

    private static long[] seen(WallCount x) {
        return new long[] {x.holder(1, 1), x.holder(2, 1), x.holder(3, 1), x.holder(4, 1), x.holder(5, 1)};
    }

    // ---- 1 a new object

    @Edge("THE KEY is 1, 0, 0, NEED 1; no ROWS, no COPY.")
    static void promise01_keyAtFirst(Due due) {
        WallCount x = new WallCount();
        due.all("PARTS", parts(x), 1, 1, 1, 1, 1);
        due.all("SEEN", seen(x), 4, 4, 4, 4, 4);
        due.is("H", x.count(2), 4);
        due.is("NEED", x.count(3), 1);
        due.is("one HOLDER is enough", x.opened(4, 16, 32, 1), 1);
    }

    @Edge("THE KEY is 1, 0, 0, NEED 1; no ROWS, no COPY.")
    static void promise01_noRowsAtFirst(Due due) {
        WallCount x = new WallCount();
        due.each("ROWS of each kind", 0, x.count(0), x.count(10), x.count(11), x.count(12), x.count(13), x.count(14));
        due.each("no ROW 0", UNKNOWN, x.ofRow(0, 0), x.ofRow(0, 4), x.ofRow(0, 6), x.attach(0, 0, 0, 0, 0));
        due.is("THE KEY may change", x.key(1, 2, 0, 0), 16);
        due.is("the first ROW is 0", x.row(0, 1, 1, 0), 0);
    }

    @Edge("THE KEY is 1, 0, 0, NEED 1; no ROWS, no COPY.")
    static void promise01_noCopyAtFirst(Due due) {
        WallCount x = new WallCount();
        due.is("ROWS of COPY", x.count(5), 0);
        due.is("PARTED", x.parted(), NONE);
        x.row(0, 1, 1, 0);
        due.is("COPY without any is the beginning of THE WALL", x.parted(), NONE);
        due.is("the first of COPY", x.copy(0), 1);
    }

    @Edge("An object is used for at most 512 calls after it has been made")
    static void promise01_call512AnswersStill(Due due) {
        WallCount x = new WallCount();
        for (int call = 1; call <= 480; call++) {
            due.is("call " + call, x.holder(1 + call % 5, 0), 1);
        }
        for (int call = 481; call <= 510; call++) {
            due.is("call " + call, x.cast(call % 12, 1, 1, 1, 1, 1, 1), call - 481);
        }
        due.is("call 511", x.tally(2), 12);
        due.is("call 512", x.ofRow(29, 4), 0);
    }

    @Edge("An object is used for at most 512 calls after it has been made")
    static void promise01_eachObjectHasItsOwn(Due due) {
        WallCount x = Twins.full();
        WallCount y = new WallCount();
        due.each("another object is new all the same", 0, y.count(0), y.count(1), y.count(5));
        due.is("H of the other", y.count(2), 4);
        due.is("ROWS of the first", x.count(0), 30);
    }

    // ---- 2 key

    @Edge("of which the first NEED (1 to 3) count (the others 0)")
    static void promise02_needTooSmallOrTooLarge(Due due) {
        for (int need : new int[] {0, -1, 4, MIN, MAX}) {
            Twins.refusedNew(due, "NEED " + need, OUTSIDE, x -> x.key(need, 2, 3, 4));
        }
        WallCount x = new WallCount();
        for (int need = 1; need <= 3; need++) {
            due.is("NEED " + need, x.key(need, 2, 3, 4), 16);
            due.is("NEED is " + need, x.count(3), need);
        }
    }

    @Edge("of which the first NEED (1 to 3) count (the others 0)")
    static void promise02_othersAreZero(Due due) {
        due.all("NEED 1", parts(withKey(1, 7, 5002, 5002)), 7, 7, 7, 7, 7);
        due.all("NEED 2", parts(withKey(2, 7, 1, 5002)), 8, 9, 10, 11, 12);
        due.all("NEED 3", parts(withKey(3, 7, 1, 1)), 9, 13, 19, 27, 37);
        WallCount x = withKey(3, 7, 1, 1);
        x.key(1, 7, 1, 1);
        due.all("NEED 1 behind NEED 3", parts(x), 7, 7, 7, 7, 7);
        x.key(2, 7, 1, 1);
        due.all("NEED 2 behind NEED 1", parts(x), 8, 9, 10, 11, 12);
    }

    @Edge("coefficients c0, c1, c2 (0 to Q less 1 each, also those that do not count)")
    static void promise02_coefficientTooSmallOrTooLarge(Due due) {
        for (int wrong : new int[] {-1, 5003, MIN, MAX}) {
            Twins.refusedNew(due, "c0 " + wrong, OUTSIDE, x -> x.key(3, wrong, 1, 1));
            Twins.refusedNew(due, "c1 " + wrong, OUTSIDE, x -> x.key(3, 1, wrong, 1));
            Twins.refusedNew(due, "c2 " + wrong, OUTSIDE, x -> x.key(3, 1, 1, wrong));
        }
        due.all("least", parts(withKey(3, 0, 0, 0)), 0, 0, 0, 0, 0);
        due.all("most", parts(withKey(3, 5002, 5002, 5002)), 5000, 4996, 4990, 4982, 4972);
    }

    @Edge("coefficients c0, c1, c2 (0 to Q less 1 each, also those that do not count)")
    static void promise02_coefficientThatDoesNotCount(Due due) {
        for (int wrong : new int[] {-1, 5003}) {
            Twins.refusedNew(due, "c1 of NEED 1", OUTSIDE, x -> x.key(1, 2, wrong, 0));
            Twins.refusedNew(due, "c2 of NEED 1", OUTSIDE, x -> x.key(1, 2, 0, wrong));
            Twins.refusedNew(due, "c2 of NEED 2", OUTSIDE, x -> x.key(2, 2, 0, wrong));
        }
        due.is("the greatest of them are fine", new WallCount().key(1, 2, 5002, 5002), 16);
    }

    @Edge("H = G to c0.")
    static void promise02_hWrapsAround(Due due) {
        WallCount x = new WallCount();
        due.is("G to 0", x.key(1, 0, 0, 0), 1);
        due.is("G to 6, still below P", x.key(1, 6, 0, 0), 4096);
        due.is("G to 7, left over by P", x.key(1, 7, 0, 0), 6377);
        due.is("G to Q less 1", x.key(1, 5002, 0, 0), 2502);
        due.is("H stands", x.count(2), 2502);
    }

    @Edge("THE KEY: H. OUTSIDE; STATE: there are ROWS.")
    static void promise02_refusedWithRows(Due due) {
        Twins.refusedSome(due, "six ROWS", STATE, x -> x.key(1, 2, 0, 0));
        Twins.refusedFull(due, "thirty ROWS", STATE, x -> x.key(1, 2, 0, 0));
        WallCount x = new WallCount();
        x.row(0, 0, 0, 999);
        due.is("one ROW, late and spoilt", x.key(1, 2, 0, 0), STATE);
        due.is("the same KEY", x.key(1, 1, 0, 0), STATE);
        WallCount y = new WallCount();
        y.row(12, 0, 0, 0);
        y.copy(5);
        due.is("a refused ROW and a COPY are no ROWS", y.key(1, 2, 0, 0), 16);
    }

    @Edge("Calls that are refused answer, the first of these that fits")
    static void promise02_outsideBeforeState(Due due) {
        Twins.refusedSome(due, "NEED", OUTSIDE, x -> x.key(4, 2, 0, 0));
        Twins.refusedSome(due, "c2 that does not count", OUTSIDE, x -> x.key(1, 2, 0, 5003));
    }

    // ---- 3 holder

    @Edge("Of a HOLDER (1 to 5): PART (what = 0), SEEN (1). UNKNOWN; OUTSIDE.")
    static void promise03_noSuchHolder(Due due) {
        for (int i : new int[] {0, 6, -1, MIN, MAX}) {
            Twins.refusedSome(due, "HOLDER " + i, UNKNOWN, x -> x.holder(i, 0));
            Twins.refusedSome(due, "HOLDER " + i, UNKNOWN, x -> x.holder(i, 1));
        }
        WallCount x = withKey(3, 17, 29, 31);
        due.all("the first and the last", new long[] {x.holder(1, 0), x.holder(1, 1), x.holder(5, 0), x.holder(5, 1)},
            77, 9739, 937, 1290);
    }

    @Edge("Of a HOLDER (1 to 5): PART (what = 0), SEEN (1). UNKNOWN; OUTSIDE.")
    static void promise03_whatTooSmallOrTooLarge(Due due) {
        for (int what : new int[] {-1, 2, MIN, MAX}) {
            Twins.refusedSome(due, "what " + what, OUTSIDE, x -> x.holder(1, what));
        }
    }

    @Edge("Calls that are refused answer, the first of these that fits")
    static void promise03_unknownBeforeOutside(Due due) {
        WallCount x = new WallCount();
        due.each("both are wrong", UNKNOWN, x.holder(0, 2), x.holder(6, -1), x.holder(MAX, MIN));
    }

    @Edge("PART of i: c0 and c1 i and c2 i i, left over by Q.")
    static void promise03_partWrapsAround(Due due) {
        due.all("from Q less 1 over to 0", parts(withKey(2, 5002, 1, 0)), 0, 1, 2, 3, 4);
        due.all("down to 0 at the last", parts(withKey(2, 5, 5002, 0)), 4, 3, 2, 1, 0);
        due.all("Q less 1 is not yet over", parts(withKey(2, 5001, 1, 0)), 5002, 0, 1, 2, 3);
        due.all("many times over", parts(withKey(3, 5002, 5002, 5002)), 5000, 4996, 4990, 4982, 4972);
    }

    @Edge("SEEN of a HOLDER: G to its PART.")
    static void promise03_seenOfNoPart(Due due) {
        due.all("PART 0 is seen as 1", seen(withKey(2, 5002, 1, 0)), 1, 4, 16, 64, 256);
        due.all("PART Q less 1", seen(withKey(1, 5002, 0, 0)), 2502, 2502, 2502, 2502, 2502);
    }

    // ---- 4 seal

    @Edge("A SEAL of a number m (0 to Q less 1) by a lot r (0 to Q less 1)")
    static void promise04_numberTooSmallOrTooLarge(Due due) {
        for (int m : new int[] {-1, 5003, MIN, MAX}) {
            Twins.refusedSome(due, "m " + m, OUTSIDE, x -> x.seal(m, 1, 0));
            Twins.refusedSome(due, "m " + m, OUTSIDE, x -> x.seal(m, 1, 1));
        }
        WallCount x = new WallCount();
        due.all("m 0", new long[] {x.seal(0, 1, 0), x.seal(0, 1, 1)}, 4, 4);
        due.all("m Q less 1", new long[] {x.seal(5002, 1, 0), x.seal(5002, 1, 1)}, 4, 1);
    }

    @Edge("A SEAL of a number m (0 to Q less 1) by a lot r (0 to Q less 1)")
    static void promise04_lotTooSmallOrTooLarge(Due due) {
        for (int r : new int[] {-1, 5003, MIN, MAX}) {
            Twins.refusedSome(due, "r " + r, OUTSIDE, x -> x.seal(1, r, 0));
            Twins.refusedSome(due, "r " + r, OUTSIDE, x -> x.seal(1, r, 1));
        }
        WallCount x = new WallCount();
        due.all("r 0", new long[] {x.seal(1, 0, 0), x.seal(1, 0, 1)}, 1, 4);
        due.all("r Q less 1", new long[] {x.seal(1, 5002, 0), x.seal(1, 5002, 1)}, 2502, 1);
    }

    @Edge("A SEAL: A (part = 0), B (1). OUTSIDE.")
    static void promise04_partTooSmallOrTooLarge(Due due) {
        for (int part : new int[] {-1, 2, MIN, MAX}) {
            Twins.refusedSome(due, "part " + part, OUTSIDE, x -> x.seal(1, 1, part));
        }
    }

    @Edge("A = G to r, B = H to r times G to m.")
    static void promise04_productWrapsAround(Due due) {
        WallCount x = new WallCount();
        due.all("nothing by no lot", new long[] {x.seal(0, 0, 0), x.seal(0, 0, 1)}, 1, 1);
        due.all("both greatest", new long[] {x.seal(5002, 5002, 0), x.seal(5002, 5002, 1)}, 2502, 5629);
        due.all("B below P", new long[] {x.seal(3, 3, 0), x.seal(3, 3, 1)}, 64, 4096);
        due.all("B left over by P", new long[] {x.seal(4, 3, 0), x.seal(4, 3, 1)}, 64, 6377);
        x.key(1, 0, 0, 0);
        due.all("H is 1", new long[] {x.seal(3, 9, 0), x.seal(3, 9, 1)}, 1962, 64);
        x.key(1, 5002, 0, 0);
        due.all("H is G to Q less 1", new long[] {x.seal(5002, 5002, 0), x.seal(5002, 5002, 1)}, 2502, 1);
    }

    // ---- 5 right

    @Edge("A pair is RIGHT, if both are 1 to P less 1, and both to Q are 1.")
    static void promise05_numberTooSmallOrTooLarge(Due due) {
        WallCount x = new WallCount();
        // 10008 and 10011 would be 1 and 4 left over by P; so would -10006 and -10003.
        for (int wrong : new int[] {0, -1, 10007, 10008, 10011, -10006, -10003, 20014, MIN, MAX}) {
            due.is("A " + wrong, x.right(wrong, 1), 0);
            due.is("B " + wrong, x.right(1, wrong), 0);
            due.is("both " + wrong, x.right(wrong, wrong), 0);
        }
    }

    @Edge("A pair is RIGHT, if both are 1 to P less 1, and both to Q are 1.")
    static void promise05_toQIsOne(Due due) {
        WallCount x = new WallCount();
        for (int good : new int[] {1, 2, 3, 4, 6, 9997, 10000, 10002}) {
            due.is("A " + good, x.right(good, 1), 1);
            due.is("B " + good, x.right(1, good), 1);
        }
        for (int wrong : new int[] {5, 7, 10, 10001, 10003, 10004, 10005, 10006}) {
            due.is("A " + wrong, x.right(wrong, 1), 0);
            due.is("B " + wrong, x.right(1, wrong), 0);
            due.is("both " + wrong, x.right(wrong, wrong), 0);
        }
    }

    @Edge("Whether a pair is RIGHT: 1, 0.")
    static void promise05_isNeverRefused(Due due) {
        int[] numbers = {MIN, -10006, -1, 0, 10007, 1000001, MAX};
        WallCount x = new WallCount();
        for (int a : numbers) {
            for (int b : numbers) {
                due.is("A " + a + ", B " + b, x.right(a, b), 0);
            }
        }
    }

    // ---- 6 open

    @Edge("HOLDERS 1 to 5")
    static void promise06_noSuchHolder(Due due) {
        for (int i : new int[] {0, 6, -1, MIN, MAX}) {
            Twins.refusedSome(due, "HOLDER " + i, UNKNOWN, x -> x.open(i, 4));
        }
        WallCount x = withKey(2, 0, 1, 0);
        due.all("the first and the last", new long[] {x.open(1, 2), x.open(5, 2)}, 2, 32);
    }

    @Edge("SHARE of a HOLDER of a pair's A. UNKNOWN; OUTSIDE: 1 to P less 1.")
    static void promise06_numberTooSmallOrTooLarge(Due due) {
        for (int a : new int[] {0, -1, 10007, 10008, MIN, MAX}) {
            Twins.refusedSome(due, "A " + a, OUTSIDE, x -> x.open(1, a));
        }
        WallCount x = withKey(2, 0, 1, 0);
        due.all("A 1", new long[] {x.open(1, 1), x.open(2, 1)}, 1, 1);
        due.all("A P less 1, to 1, 2, 5", new long[] {x.open(1, 10006), x.open(2, 10006), x.open(5, 10006)}, 10006, 1, 10006);
    }

    @Edge("Calls that are refused answer, the first of these that fits")
    static void promise06_unknownBeforeOutside(Due due) {
        WallCount x = new WallCount();
        due.each("both are wrong", UNKNOWN, x.open(0, 0), x.open(6, 10007), x.open(-1, -1));
    }

    @Edge("SHARES of a pair: A to PART.")
    static void promise06_shareOfNoPart(Due due) {
        WallCount x = withKey(2, 5002, 1, 0);
        due.each("A to 0", 1, x.open(1, 1), x.open(1, 5), x.open(1, 10006));
        WallCount y = withKey(1, 5002, 0, 0);
        due.is("G to Q less 1 is by G", y.open(1, 4), 2502);
    }

    @Edge("All products and powers are left over by P = 10007; exponents by Q = 5003 (P less 1, by 2).")
    static void promise06_powerWrapsAround(Due due) {
        WallCount x = withKey(1, 2, 0, 0);
        due.all("squares below and above P", new long[] {x.open(1, 100), x.open(1, 101), x.open(1, 10006)}, 10000, 194, 1);
        WallCount y = withKey(2, 5001, 1, 0);
        due.all("PART Q less 1, then 0 and 1", new long[] {y.open(1, 4), y.open(2, 4), y.open(3, 4)}, 2502, 1, 4);
    }

    // ---- 7 weight

    @Edge("Weight of a HOLDER in a set (bits 1 to 5). UNKNOWN: also it is not in it; OUTSIDE: the set, 2 to 62, even.")
    static void promise07_noSuchHolder(Due due) {
        for (int i : new int[] {0, 6, -1, 31, 32, 33, MIN, MAX}) {
            Twins.refusedSome(due, "HOLDER " + i, UNKNOWN, x -> x.weight(i, 62));
            Twins.refusedSome(due, "HOLDER " + i + " in all bits", UNKNOWN, x -> x.weight(i, -1));
        }
    }

    @Edge("UNKNOWN: also it is not in it;")
    static void promise07_notInTheSet(Due due) {
        for (int i = 1; i <= 5; i++) {
            int holder = i;
            int others = 62 & ~(1 << i);
            Twins.refusedSome(due, "HOLDER " + i + " in all others", UNKNOWN, x -> x.weight(holder, others));
            due.holds("HOLDER " + i + " in all", new WallCount().weight(i, 62) > 0);
        }
    }

    @Edge("OUTSIDE: the set, 2 to 62, even.")
    static void promise07_setTooSmallOrTooLarge(Due due) {
        for (int set : new int[] {-2, 66, 62 + 64, MIN + 2, MAX - 1}) {
            Twins.refusedSome(due, "set " + set, OUTSIDE, x -> x.weight(1, set));
        }
        WallCount x = new WallCount();
        due.is("the least set", x.weight(1, 2), 1);
        due.is("the greatest set", x.weight(1, 62), 5);
    }

    @Edge("OUTSIDE: the set, 2 to 62, even.")
    static void promise07_setIsOdd(Due due) {
        for (int set : new int[] {3, 7, 61 | 2, -1, MAX}) {
            Twins.refusedSome(due, "set " + set, OUTSIDE, x -> x.weight(1, set));
        }
    }

    @Edge("Calls that are refused answer, the first of these that fits")
    static void promise07_unknownBeforeOutside(Due due) {
        WallCount x = new WallCount();
        due.each("no such HOLDER, no such set", UNKNOWN, x.weight(0, 63), x.weight(6, 127), x.weight(0, 0));
        due.each("not in what is no set", UNKNOWN, x.weight(1, 0), x.weight(1, 1), x.weight(2, 3), x.weight(1, 64),
            x.weight(5, 65), x.weight(3, MIN));
    }

    @Edge("for each one i the product over others j of j by (j less i), left over by Q")
    static void promise07_noOthers(Due due) {
        WallCount x = new WallCount();
        due.each("alone", 1, x.weight(1, 2), x.weight(2, 4), x.weight(3, 8), x.weight(4, 16), x.weight(5, 32));
    }

    @Edge("for each one i the product over others j of j by (j less i), left over by Q")
    static void promise07_differenceBelowZero(Due due) {
        WallCount x = new WallCount();
        due.all("1 and 2", new long[] {x.weight(1, 6), x.weight(2, 6)}, 2, 5002);
        due.all("4 and 5", new long[] {x.weight(4, 48), x.weight(5, 48)}, 5, 4999);
        due.all("1 and 5", new long[] {x.weight(1, 34), x.weight(5, 34)}, 1252, 3752);
        due.all("2 to 5", new long[] {x.weight(2, 60), x.weight(3, 60), x.weight(4, 60), x.weight(5, 60)}, 10, 4983, 15, 4999);
    }

    // ---- 8 opened

    @Edge("OUTSIDE: A, B 1 to P less 1, the set, what;")
    static void promise08_pairTooSmallOrTooLarge(Due due) {
        for (int wrong : new int[] {0, -1, 10007, 10008, MIN, MAX}) {
            Twins.refusedSome(due, "A " + wrong, OUTSIDE, x -> x.opened(wrong, 1, 6, 0));
            Twins.refusedSome(due, "B " + wrong, OUTSIDE, x -> x.opened(1, wrong, 6, 0));
        }
        WallCount x = new WallCount();
        due.is("both least", x.opened(1, 1, 2, 0), 1);
        due.is("both greatest", x.opened(10006, 10006, 2, 0), 1);
        due.is("A greatest", x.opened(10006, 1, 2, 0), 10006);
        due.is("B greatest", x.opened(1, 10006, 2, 0), 10006);
    }

    @Edge("OUTSIDE: A, B 1 to P less 1, the set, what;")
    static void promise08_setIsNone(Due due) {
        for (int set : new int[] {0, 1, 3, 7, 63, 64, 66, -2, -1, MIN, MAX}) {
            Twins.refusedSome(due, "set " + set, OUTSIDE, x -> x.opened(4, 16, set, 0));
        }
        WallCount x = new WallCount();
        due.each("the least and the greatest", 4, x.opened(4, 16, 2, 0), x.opened(4, 16, 32, 0), x.opened(4, 16, 62, 0));
    }

    @Edge("OUTSIDE: A, B 1 to P less 1, the set, what;")
    static void promise08_whatTooSmallOrTooLarge(Due due) {
        for (int what : new int[] {-1, 2, MIN, MAX}) {
            Twins.refusedSome(due, "what " + what, OUTSIDE, x -> x.opened(4, 16, 6, what));
        }
    }

    @Edge("NO: fewer HOLDERS than NEED.")
    static void promise08_fewerThanNeed(Due due) {
        WallCount one = withKey(1, 17, 29, 31);
        due.each("one of NEED 1", 1962, one.opened(1024, 7670, 2, 0), one.opened(1024, 7670, 32, 0));
        WallCount two = withKey(2, 17, 29, 31);
        due.each("one of NEED 2", NO, two.opened(1024, 7670, 2, 0), two.opened(1024, 7670, 32, 1));
        due.each("two of NEED 2", 1962, two.opened(1024, 7670, 6, 0), two.opened(1024, 7670, 34, 0));
        due.is("more than NEED 2", two.opened(1024, 7670, 62, 1), 9);
        WallCount three = withKey(3, 17, 29, 31);
        due.each("one and two of NEED 3", NO, three.opened(1024, 7670, 2, 0), three.opened(1024, 7670, 6, 0),
            three.opened(1024, 7670, 48, 1));
        due.each("three of NEED 3", 1962, three.opened(1024, 7670, 14, 0), three.opened(1024, 7670, 56, 0));
        due.is("more than NEED 3", three.opened(1024, 7670, 62, 1), 9);
        Twins.refusedSome(due, "one of NEED 2", NO, x -> x.opened(1024, 7670, 2, 0));
    }

    @Edge("Calls that are refused answer, the first of these that fits")
    static void promise08_outsideBeforeNo(Due due) {
        WallCount x = withKey(3, 17, 29, 31);
        due.each("too few, and another number is wrong", OUTSIDE, x.opened(0, 1, 2, 0), x.opened(1, 10007, 2, 0),
            x.opened(1, 1, 2, 2), x.opened(1, 1, 0, 0), x.opened(1, 1, 3, 0));
    }

    @Edge("m: the least of 0 to 200 with that power, if there is one.")
    static void promise08_leastAndGreatestNumber(Due due) {
        WallCount x = withKey(3, 17, 29, 31);
        due.is("m 0", x.opened(9739, 5829, 14, 1), 0);
        due.is("m 200", x.opened(9739, 8984, 14, 1), 200);
        due.is("m 201", x.opened(9739, 5915, 14, 1), NONE);
        due.is("G to 201 all the same", x.opened(9739, 5915, 14, 0), 2765);
        due.is("m Q less 1", x.opened(9739, 3959, 14, 1), NONE);
        due.is("G to Q less 1 all the same", x.opened(9739, 3959, 14, 0), 2502);
    }

    @Edge("OPENED: G to m (what = 0), m (1; NONE).")
    static void promise08_noSuchPower(Due due) {
        WallCount x = new WallCount();
        due.is("P less 1 is no power of G", x.opened(1, 10006, 2, 1), NONE);
        due.is("5 is no power of G", x.opened(1, 5, 62, 1), NONE);
        due.is("but it is told", x.opened(1, 5, 62, 0), 5);
    }

    @Edge("By A is by that number whose product with A is 1.")
    static void promise08_byTheProductOfShares(Due due) {
        WallCount x = new WallCount();
        due.is("1 by 4", x.opened(4, 1, 2, 0), 2502);
        due.is("1 by P less 1", x.opened(10006, 1, 2, 0), 10006);
        due.is("1 by 2502", x.opened(2502, 1, 2, 0), 4);
        due.is("2502 by 4", x.opened(4, 2502, 2, 0), 5629);
    }
}
