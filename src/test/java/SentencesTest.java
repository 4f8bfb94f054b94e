import java.math.BigInteger;

/**
 * The sentences of the document that name no boundary: each clause of 'What it is', and those of 'Terms' that tell
 * how a number comes about. Odds are counted by trying all ways, powers by multiplying one by one.
 */
public final class SentencesTest {
    private static final int P = 10007, Q = 5003, G = 4;
    private static final int NO = -5, NONE = -6;
    private static final int COUNTS = 0, LATE = 1, SPOILT = 2, BARRED = 3, OLD = 4;

    public static void main(String[] args) throws Exception {
        Edges.run(SentencesTest.class);
    }

    private static int power(int base, int exponent) {
        int product = 1;
        for (int i = 0; i < exponent; i++) {
            product = product * base % P;
        }
        return product;
    }

    /** Upper by lower: the one number that, times the lower, is the upper. */
    private static int by(int upper, int lower) {
        for (int n = 1; n < P; n++) {
            if (n * lower % P == upper) {
                return n;
            }
        }
        return 0;
    }

    private static int[] proof(WallCount x, int m, int r, int w, int c, int z) {
        return new int[] {x.prove(m, r, w, c, z, 0), x.prove(m, r, w, c, z, 1), x.prove(m, r, w, c, z, 2), x.prove(m, r, w, c, z, 3)};
    }

    private static void isFraction(Due due, String what, long upper, long lower, long wantUpper, long wantLower) {
        BigInteger shared = BigInteger.valueOf(wantUpper).gcd(BigInteger.valueOf(wantLower));
        due.is(what + ", upper", upper, wantUpper / shared.longValue());
        due.is(what + ", lower", lower, wantLower / shared.longValue());
    }

    // ---- What it is

    @Edge("votes sealed as two powers left over by a prime, so that sealed ones multiplied are their sum, sealed")
    static void promise04_productOfSealsIsTheSealOfTheSum(Due due) {
        int[][] pairs = {{0, 1, 1, 2}, {1, 5002, 1, 5002}, {100, 4000, 101, 2000}, {5002, 77, 5002, 88}, {0, 0, 3, 9}};
        WallCount x = new WallCount();
        x.key(1, 4321, 0, 0);
        for (int[] p : pairs) {
            for (int part = 0; part <= 1; part++) {
                int product = x.seal(p[0], p[1], part) * x.seal(p[2], p[3], part) % P;
                due.is("part " + part, product, x.seal((p[0] + p[2]) % Q, (p[1] + p[3]) % Q, part));
            }
        }
    }

    @Edge("a key in parts of which some open it")
    static void promise08_anyNeedOfTheHoldersOpenIt(Due due) {
        for (int need = 1; need <= 3; need++) {
            WallCount x = new WallCount();
            x.key(need, 1111, 2222, 3333);
            int a = x.seal(150, 4444, 0);
            int b = x.seal(150, 4444, 1);
            for (int set = 2; set <= 62; set += 2) {
                due.is("NEED " + need + ", set " + set, x.opened(a, b, set, 1), Integer.bitCount(set) < need ? NO : 150);
            }
        }
    }

    @Edge("proofs that a sealed one is a no or a yes and nothing else")
    static void promise10_noOrYesAndNothingElse(Due due) {
        WallCount x = new WallCount();
        x.key(2, 3210, 123, 0);
        for (int m = 0; m <= 1; m++) {
            int[] p = proof(x, m, 1234, 2345, 3456, 4567);
            for (int sealed = 0; sealed <= 5; sealed++) {
                int holds = x.check(x.seal(sealed, 1234, 0), x.seal(sealed, 1234, 1), p[0], p[1], p[2], p[3]);
                due.is("a proof of " + m + " for a SEAL of " + sealed, holds, m == sealed ? 1 : 0);
            }
        }
    }

    @Edge("a wall of rows on which each finds its own by a short word")
    static void promise22_eachFindsItsOwn(Due due) {
        WallCount x = new WallCount();
        int[] words = new int[12];
        for (int voter = 0; voter < 12; voter++) {
            int r = 100 + 7 * voter;
            x.cast(voter, voter % 2, voter, r, 1, 2, 3);
            long b = (long) power(G, r) * power(G, voter % 2) % P;
            words[voter] = (int) (((((7L * 131 + voter) * 131 + power(G, r)) * 131 + b) * 131 + voter) % 9973);
        }
        for (int voter = 0; voter < 12; voter++) {
            due.is("VOTER " + voter, x.find(words[voter], 0), voter);
            due.is("VOTER " + voter + " once", x.find(words[voter], voter + 1), NONE);
        }
    }

    @Edge("the last right one counts, late and spoilt ones stay to be seen")
    static void promise21_lastRightOneCounts(Due due) {
        WallCount x = new WallCount();
        x.cast(4, 1, 10, 1, 2, 3, 4);
        x.cast(4, 0, 20, 5, 6, 7, 8);
        x.cast(4, 1, 100, 9, 10, 11, 12);
        x.row(4, 4, 16, 30);
        x.cast(4, 0, 101, 13, 14, 15, 16);
        x.cast(5, 0, 40, 17, 18, 19, 20);
        int[] kinds = {OLD, OLD, COUNTS, SPOILT, LATE, COUNTS};
        for (int row = 0; row < 6; row++) {
            due.is("ROW " + row, x.ofRow(row, 4), kinds[row]);
        }
        due.is("all stay", x.count(0), 6);
        due.all("the spoilt one is seen", new long[] {x.ofRow(3, 0), x.ofRow(3, 1), x.ofRow(3, 2), x.ofRow(3, 3)}, 4, 4, 16, 30);
        due.all("the late one is seen", new long[] {x.ofRow(4, 0), x.ofRow(4, 1), x.ofRow(4, 3)}, 4, power(G, 13), 101);
        due.is("one yes of two", x.opened(x.tally(0), x.tally(1), 2, 1), 1);
        x.close(101);
        due.is("with the late one, no yes of two", x.opened(x.tally(0), x.tally(1), 2, 1), 0);
    }

    @Edge("two walls held against each other")
    static void promise25_twoWalls(Due due) {
        WallCount one = new WallCount();
        WallCount other = new WallCount();
        for (int i = 0; i < 8; i++) {
            one.cast(i, 1, i, i, 1, 2, 3);
            other.cast(i, 1, i == 5 ? 6 : i, i, 1, 2, 3);
        }
        for (int i = 0; i < 8; i++) {
            one.copy(other.ofRow(i, 5));
            other.copy(one.ofRow(i, 5));
            due.is("behind " + i, one.parted(), i < 5 ? NONE : 5);
            due.is("behind " + i + ", from the other side", other.parted(), i < 5 ? NONE : 5);
            due.is("HEADS of " + i + " tell it too", one.ofRow(i, 6) == other.ofRow(i, 6) ? 1 : 0, i < 5 ? 1 : 0);
        }
    }

    @Edge("who may vote by a small text")
    static void promise16_bySmallText(Due due) {
        WallCount x = new WallCount();
        Twins.say(x, "a>17&y>4&b=0|a>89");
        due.is("it is a text", x.rule(), 1);
        int[][] voters = {{18, 5, 0, 1}, {17, 5, 0, 0}, {18, 4, 0, 0}, {18, 5, 1, 0}, {90, 0, 1, 1}, {89, 0, 1, 0}};
        for (int v = 0; v < voters.length; v++) {
            for (int what = 0; what < 3; what++) {
                x.voter(v, what, voters[v][what]);
            }
            due.is("VOTER " + v, x.may(v), voters[v][3]);
            x.cast(v, 1, 0, v, 1, 2, 3);
            due.is("ROW " + v, x.ofRow(v, 4), voters[v][3] == 1 ? COUNTS : BARRED);
        }
    }

    @Edge("booths that lie, found by how many ask")
    static void promise27_theMoreAskTheMoreIsFound(Due due) {
        for (int n = 1; n <= 8; n++) {
            for (int k = 0; k <= n; k++) {
                for (int s = 0; s <= 100; s += 25) {
                    due.is("of " + n + ", " + k + ", " + s, new WallCount().ask(n, k, s), leastAsked(n, k, s));
                }
            }
        }
        due.is("one of 40, found for sure", new WallCount().ask(40, 1, 0), 40);
    }

    private static int leastAsked(int n, int k, int s) {
        for (int asked = 0; asked <= n; asked++) {
            long[] ways = waysWithoutFirst(n, k, asked);
            if (ways[0] * 100 <= ways[1] * s) {
                return asked;
            }
        }
        return NONE;
    }

    @Edge("slips drawn until a loser is sure")
    static void promise30_drawnUntilSure(Due due) {
        for (int all = 2; all <= 12; all++) {
            for (int s = 0; s <= 100; s += 10) {
                int least = NONE;
                for (int n = all; n >= 1; n--) {
                    long[] ways = waysForTheOne(all, n, n);
                    least = ways[0] * 100 <= ways[1] * s ? n : least;
                }
                due.is("of " + all + ", " + s, new WallCount().sure(all, s), least);
            }
        }
    }

    @Edge("what a buyer can tell from the sums, exactly")
    static void promise31_exactlyByAllWays(Due due) {
        int[][] sums = {{3, 2, 1, 0, 0, 0}, {3, 2, 1, 1, 1, 0}, {8, 0, 0, 7, 0, 0}, {2, 2, 4, 0, 2, 0}, {1, 6, 1, 0, 3, 1}};
        for (int[] s : sums) {
            int[] left = {s[0] - s[3], s[1] - s[4], s[2] - s[5]};
            for (int j = 0; j < 3; j++) {
                int[] rest = left.clone();
                rest[j]--;
                WallCount x = new WallCount();
                isFraction(due, "for " + j, x.told(s[0], s[1], s[2], s[3], s[4], s[5], j, 0),
                    x.told(s[0], s[1], s[2], s[3], s[4], s[5], j, 1), orders(rest), orders(left));
            }
        }
    }

    /** In how many orders these can have voted, one after another. */
    private static long orders(int[] left) {
        if (left[0] < 0 || left[1] < 0 || left[2] < 0) {
            return 0;
        }
        if (left[0] + left[1] + left[2] == 0) {
            return 1;
        }
        long ways = 0;
        for (int j = 0; j < 3; j++) {
            int[] rest = left.clone();
            rest[j]--;
            ways += orders(rest);
        }
        return ways;
    }

    // ---- Terms

    @Edge("B by the product of SHARES to their weights: G to m.")
    static void promise08_sharesAsEachHolderTellsThem(Due due) {
        WallCount x = new WallCount();
        x.key(3, 600, 70, 8);
        int[][] pairs = {{x.seal(33, 55, 0), x.seal(33, 55, 1)}, {5, 7}, {10006, 3}};
        for (int[] pair : pairs) {
            for (int set : new int[] {14, 50, 62}) {
                int product = 1;
                for (int i = 1; i <= 5; i++) {
                    if ((set & 1 << i) != 0) {
                        product = product * power(x.open(i, pair[0]), x.weight(i, set)) % P;
                    }
                }
                due.is("A " + pair[0] + ", set " + set, x.opened(pair[0], pair[1], set, 0), by(pair[1], product));
            }
        }
    }

    @Edge("for v of 0, 1: S = G to z by (A to c), T = H to z by ((B by G to v) to c).")
    static void promise10_mixOfWhatTheProofTells(Due due) {
        WallCount x = new WallCount();
        int h = x.key(2, 2718, 281, 0);
        int a = x.seal(1, 828, 0);
        int b = x.seal(1, 828, 1);
        int c0 = 459, z0 = 45, z1 = 2353;
        int holding = 0;
        for (int c1 = 0; c1 < 400; c1++) {
            int mix = mixOf(a, b, by(power(G, z0), power(a, c0)), by(power(h, z0), power(b, c0)),
                by(power(G, z1), power(a, c1)), by(power(h, z1), power(by(b, G), c1)));
            int held = x.check(a, b, c0, z0, c1, z1);
            due.is("c1 " + c1, held, (c0 + c1) % Q == mix ? 1 : 0);
            holding += held;
        }
        due.holds("few hold by luck", holding < 5);
    }

    private static int mixOf(int... numbers) {
        int mix = 1;
        for (int number : numbers) {
            mix = (mix * 31 + number) % Q;
        }
        return mix;
    }

    @Edge("of the other one (1 less m): its c and z are these; of m: S = G to w, T = H to w; MIX then,")
    static void promise09_powersOfTheLotW(Due due) {
        WallCount x = new WallCount();
        int h = x.key(1, 577, 0, 0);
        for (int m = 0; m <= 1; m++) {
            int a = x.seal(m, 215, 0);
            int b = x.seal(m, 215, 1);
            int[] p = proof(x, m, 215, 664, 901, 532);
            due.all("of the other one", new long[] {p[2 - 2 * m], p[3 - 2 * m]}, 901, 532);
            int c = p[2 * m];
            int z = p[2 * m + 1];
            due.is("S of " + m, by(power(G, z), power(a, c)), power(G, 664));
            due.is("T of " + m, by(power(h, z), power(by(b, power(G, m)), c)), power(h, 664));
            int otherS = by(power(G, 532), power(a, 901));
            int otherT = by(power(h, 532), power(by(b, power(G, 1 - m)), 901));
            int mix = m == 0 ? mixOf(a, b, power(G, 664), power(h, 664), otherS, otherT)
                : mixOf(a, b, otherS, otherT, power(G, 664), power(h, 664));
            due.is("MIX of " + m, (c + 901) % Q, mix);
        }
    }

    @Edge("the odds that no false one is asked.")
    static void promise26_byAllWaysToAsk(Due due) {
        for (int n = 1; n <= 10; n++) {
            for (int k = 0; k <= n; k++) {
                for (int asked = 0; asked <= n; asked++) {
                    WallCount x = new WallCount();
                    long[] ways = waysWithoutFirst(n, k, asked);
                    isFraction(due, "of " + n + ", " + k + ", " + asked, x.lies(n, k, asked, 0), x.lies(n, k, asked, 1), ways[0], ways[1]);
                }
            }
        }
    }

    /** Ways to ask so many of n: those that leave out the first k, and all. */
    private static long[] waysWithoutFirst(int n, int k, int asked) {
        long[] ways = new long[2];
        for (int way = 0; way < 1 << n; way++) {
            if (Integer.bitCount(way) == asked) {
                ways[0] += (way & (1 << k) - 1) == 0 ? 1 : 0;
                ways[1]++;
            }
        }
        return ways;
    }

    @Edge("n drawn: the odds that w of them or more are for the one.")
    static void promise28_byAllWaysToDraw(Due due) {
        for (int all = 2; all <= 10; all++) {
            for (int n = 0; n <= all; n++) {
                for (int w = 0; w <= n; w++) {
                    WallCount x = new WallCount();
                    long[] ways = waysForTheOne(all, n, w);
                    isFraction(due, "of " + all + ", " + n + ", " + w, x.slips(all, n, w, 0), x.slips(all, n, w, 1), ways[0], ways[1]);
                }
            }
        }
    }

    /** Ways to draw n: those with w or more for the one (the greater half, if they are odd), and all. */
    private static long[] waysForTheOne(int all, int n, int w) {
        int one = (1 << (all + 1) / 2) - 1;
        long[] ways = new long[2];
        for (int way = 0; way < 1 << all; way++) {
            if (Integer.bitCount(way) == n) {
                ways[0] += Integer.bitCount(way & one) >= w ? 1 : 0;
                ways[1]++;
            }
        }
        return ways;
    }

    @Edge("how many of those who are not known have to be asked so that the rest is known for sure (at least; by the best luck)")
    static void promise32_askedByTheBestLuck(Due due) {
        for (int a = 0; a <= 8; a++) {
            for (int b = 0; a + b <= 8; b++) {
                for (int c = a + b == 0 ? 1 : 0; a + b + c <= 8; c++) {
                    due.is(a + ", " + b + ", " + c, new WallCount().forced(a, b, c, 0, 0, 0), leastUntilSure(a, b, c));
                }
            }
        }
    }

    private static int leastUntilSure(int a, int b, int c) {
        if ((a == 0 ? 1 : 0) + (b == 0 ? 1 : 0) + (c == 0 ? 1 : 0) >= 2) {
            return 0;
        }
        int least = 99;
        least = a > 0 ? Math.min(least, 1 + leastUntilSure(a - 1, b, c)) : least;
        least = b > 0 ? Math.min(least, 1 + leastUntilSure(a, b - 1, c)) : least;
        return c > 0 ? Math.min(least, 1 + leastUntilSure(a, b, c - 1)) : least;
    }
}
