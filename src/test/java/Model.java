import java.math.BigInteger;
import java.util.ArrayList;
import java.util.List;

/**
 * The document again, written for plainness alone and by other ways than the class: big numbers,
 * trying all, nothing kept that can be worked out anew. ModelTest holds the class against it.
 */
final class Model {
    static final int NONE = -6, UNKNOWN = -1, OUTSIDE = -2, STATE = -3, FULL = -4, NO = -5;
    static final long LOST = -1000000000000000000L;
    static final BigInteger P = BigInteger.valueOf(10007), Q = BigInteger.valueOf(5003), G = BigInteger.valueOf(4);
    static final String FULL_TEXT = "[ayb][<>=][0-9]{1,3}([&|][ayb][<>=][0-9]{1,3})*";

    private static final class Line {
        int voter, a, b, hour;
        int[] proof = new int[4];
        boolean told;
    }

    private int need = 1;
    private int[] c = {1, 0, 0};
    private final int[][] voters = new int[12][];
    private String signs = "";
    private String whoMay = null;
    private int close = 100;
    private final List<Line> wall = new ArrayList<>();
    private final List<Integer> copy = new ArrayList<>();

    Model() {
        for (int i = 0; i < 12; i++) {
            voters[i] = new int[] {30, 10, 0};
        }
    }

    private static BigInteger big(long n) {
        return BigInteger.valueOf(n);
    }

    private static BigInteger pow(BigInteger base, long e) {
        return base.modPow(big(e), P);
    }

    private static BigInteger by(BigInteger upper, BigInteger lower) {
        return upper.multiply(lower.modInverse(P)).mod(P);
    }

    private static boolean in(long n, long least, long most) {
        return least <= n && n <= most;
    }

    private static boolean lot(long n) {
        return in(n, 0, 5002);
    }

    private BigInteger h() {
        return pow(G, c[0]);
    }

    private long partOf(int i) {
        long sum = 0;
        for (int k = 0; k < need; k++) {
            sum += c[k] * Math.round(Math.pow(i, k));
        }
        return sum % 5003;
    }

    // 1

    int key(int newNeed, int c0, int c1, int c2) {
        if (!in(newNeed, 1, 3) || !lot(c0) || !lot(c1) || !lot(c2)) return OUTSIDE;
        if (!wall.isEmpty()) return STATE;
        need = newNeed;
        c = new int[] {c0, c1, c2};
        return h().intValue();
    }

    int holder(int i, int what) {
        if (!in(i, 1, 5)) return UNKNOWN;
        if (!in(what, 0, 1)) return OUTSIDE;
        return what == 0 ? (int) partOf(i) : pow(G, partOf(i)).intValue();
    }

    int seal(int m, int r, int part) {
        if (!lot(m) || !lot(r) || !in(part, 0, 1)) return OUTSIDE;
        return part == 0 ? pow(G, r).intValue() : pow(h(), r).multiply(pow(G, m)).mod(P).intValue();
    }

    int right(int a, int b) {
        for (int n : new int[] {a, b}) {
            if (!in(n, 1, 10006) || !pow(big(n), 5003).equals(BigInteger.ONE)) return 0;
        }
        return 1;
    }

    int open(int i, int a) {
        if (!in(i, 1, 5)) return UNKNOWN;
        if (!in(a, 1, 10006)) return OUTSIDE;
        return pow(big(a), partOf(i)).intValue();
    }

    int weight(int i, int set) {
        if (!in(i, 1, 5) || !big(set).testBit(i)) return UNKNOWN;
        if (!in(set, 2, 62) || set % 2 != 0) return OUTSIDE;
        BigInteger upper = BigInteger.ONE, lower = BigInteger.ONE;
        for (int j = 1; j <= 5; j++) {
            if (j != i && big(set).testBit(j)) {
                upper = upper.multiply(big(j));
                lower = lower.multiply(big(j - i));
            }
        }
        return upper.multiply(lower.modInverse(Q)).mod(Q).intValue();
    }

    int opened(int a, int b, int set, int what) {
        if (!in(a, 1, 10006) || !in(b, 1, 10006) || !in(set, 2, 62) || set % 2 != 0 || !in(what, 0, 1)) return OUTSIDE;
        if (big(set).bitCount() < need) return NO;
        BigInteger power = big(b);
        for (int i = 1; i <= 5; i++) {
            if (big(set).testBit(i)) {
                power = by(power, pow(big(open(i, a)), weight(i, set)));
            }
        }
        if (what == 0) return power.intValue();
        for (int m = 0; m <= 200; m++) {
            if (pow(G, m).equals(power)) return m;
        }
        return NONE;
    }

    // 2

    private static BigInteger sOf(BigInteger a, long ch, long z) {
        return by(pow(G, z), pow(a, ch));
    }

    private BigInteger tOf(BigInteger b, int v, long ch, long z) {
        return by(pow(h(), z), pow(by(b, pow(G, v)), ch));
    }

    /** MIX written out as one sum of powers of 31. */
    private static long mix(BigInteger... numbers) {
        BigInteger sum = big(31).pow(numbers.length);
        for (int i = 0; i < numbers.length; i++) {
            sum = sum.add(numbers[i].multiply(big(31).pow(numbers.length - 1 - i)));
        }
        return sum.mod(Q).longValue();
    }

    private int[] made(int m, int r, int w, int ch, int z) {
        BigInteger a = big(seal(m, r, 0)), b = big(seal(m, r, 1));
        BigInteger[] s = new BigInteger[2], t = new BigInteger[2];
        s[m] = pow(G, w);
        t[m] = pow(h(), w);
        s[1 - m] = sOf(a, ch, z);
        t[1 - m] = tOf(b, 1 - m, ch, z);
        long mix = mix(a, b, s[0], t[0], s[1], t[1]);
        long own = Math.floorMod(mix - ch, 5003L);
        int[] proof = new int[4];
        proof[2 * m] = (int) own;
        proof[2 * m + 1] = (int) ((w + own * r) % 5003);
        proof[2 - 2 * m] = ch;
        proof[3 - 2 * m] = z;
        return proof;
    }

    int prove(int m, int r, int w, int ch, int z, int i) {
        if (!in(m, 0, 1) || !lot(r) || !lot(w) || !lot(ch) || !lot(z) || !in(i, 0, 3)) return OUTSIDE;
        return made(m, r, w, ch, z)[i];
    }

    int check(int a, int b, int c0, int z0, int c1, int z1) {
        if (right(a, b) == 0 || !lot(c0) || !lot(z0) || !lot(c1) || !lot(z1)) return 0;
        BigInteger x = big(a), y = big(b);
        long mix = mix(x, y, sOf(x, c0, z0), tOf(y, 0, c0, z0), sOf(x, c1, z1), tOf(y, 1, c1, z1));
        return (c0 + c1) % 5003 == mix ? 1 : 0;
    }

    // 3

    int voter(int voter, int what, int v) {
        if (!in(voter, 0, 11)) return UNKNOWN;
        if (!in(what, 0, 2) || !in(v, 0, what == 2 ? 1 : 120)) return OUTSIDE;
        int before = voters[voter][what];
        voters[voter][what] = v;
        return before;
    }

    int say(int sign) {
        if (!in(sign, 33, 126)) return OUTSIDE;
        if (signs.length() == 40) return FULL;
        signs += (char) sign;
        return signs.length();
    }

    int wipe() {
        int before = signs.length();
        signs = "";
        return before;
    }

    /** A beginning can go on, if one of these ends makes a whole text of it. */
    private static boolean canGoOn(String beginning) {
        for (String end : new String[] {"", "a=1", "=1", "1"}) {
            if ((beginning + end).matches(FULL_TEXT)) return true;
        }
        return false;
    }

    int fault() {
        if (signs.matches(FULL_TEXT)) return NONE;
        for (int i = 0; i < signs.length(); i++) {
            if (!canGoOn(signs.substring(0, i + 1))) return i;
        }
        return signs.length();
    }

    int rule() {
        if (fault() != NONE) return NO;
        whoMay = signs;
        signs = "";
        return 1;
    }

    int may(int voter) {
        if (!in(voter, 0, 11)) return UNKNOWN;
        if (whoMay == null) return 1;
        for (String both : whoMay.split("\\|")) {
            boolean all = true;
            for (String test : both.split("&")) {
                int had = voters[voter]["ayb".indexOf(test.charAt(0))];
                int than = Integer.compare(had, Integer.parseInt(test.substring(2)));
                all &= "<=>".indexOf(test.charAt(1)) - 1 == than;
            }
            if (all) return 1;
        }
        return 0;
    }

    int close(int hour) {
        if (!in(hour, 0, 999)) return OUTSIDE;
        int before = close;
        close = hour;
        return before;
    }

    private int post(int voter, int a, int b, int hour, int[] proof, boolean told) {
        Line line = new Line();
        line.voter = voter;
        line.a = a;
        line.b = b;
        line.hour = hour;
        line.proof = proof;
        line.told = told;
        wall.add(line);
        return wall.size() - 1;
    }

    int row(int voter, int a, int b, int hour) {
        if (!in(voter, 0, 11)) return UNKNOWN;
        if (!in(a, 0, 1000000) || !in(b, 0, 1000000) || !in(hour, 0, 999)) return OUTSIDE;
        if (wall.size() == 30) return FULL;
        return post(voter, a, b, hour, new int[4], false);
    }

    int attach(int row, int c0, int z0, int c1, int z1) {
        if (!in(row, 0, wall.size() - 1)) return UNKNOWN;
        int[] proof = {c0, z0, c1, z1};
        for (int n : proof) {
            if (!in(n, 0, 1000000)) return OUTSIDE;
        }
        if (wall.get(row).told) return STATE;
        wall.get(row).proof = proof;
        wall.get(row).told = true;
        return 1;
    }

    int cast(int voter, int m, int hour, int r, int w, int ch, int z) {
        if (!in(voter, 0, 11)) return UNKNOWN;
        if (!in(m, 0, 1) || !in(hour, 0, 999) || !lot(r) || !lot(w) || !lot(ch) || !lot(z)) return OUTSIDE;
        if (wall.size() == 30) return FULL;
        return post(voter, seal(m, r, 0), seal(m, r, 1), hour, made(m, r, w, ch, z), true);
    }

    private int kind(int row) {
        Line line = wall.get(row);
        if (line.hour > close) return 1;
        int[] p = line.proof;
        if (check(line.a, line.b, p[0], p[1], p[2], p[3]) == 0) return 2;
        if (may(line.voter) == 0) return 3;
        for (int later = row + 1; later < wall.size(); later++) {
            if (wall.get(later).voter == line.voter && (kind(later) == 0 || kind(later) == 4)) return 4;
        }
        return 0;
    }

    private int word(int row) {
        Line line = wall.get(row);
        long word = 7;
        for (int n : new int[] {line.voter, line.a, line.b, line.hour}) {
            word = (word * 131 + n) % 9973;
        }
        return (int) word;
    }

    private int head(int row) {
        BigInteger before = row == 0 ? BigInteger.ONE : big(head(row - 1));
        return before.multiply(big(10007)).add(big(word(row))).mod(big(999983)).intValue();
    }

    int ofRow(int row, int what) {
        if (!in(row, 0, wall.size() - 1)) return UNKNOWN;
        if (!in(what, 0, 6)) return OUTSIDE;
        Line line = wall.get(row);
        if (what == 4) return kind(row);
        if (what == 6) return head(row);
        return new int[] {line.voter, line.a, line.b, line.hour, 0, word(row)}[what];
    }

    int find(int word, int from) {
        if (!in(from, 0, 30)) return OUTSIDE;
        for (int row = from; row < wall.size(); row++) {
            if (word(row) == word) return row;
        }
        return NONE;
    }

    private int kinds(int kind) {
        int many = 0;
        for (int row = 0; row < wall.size(); row++) {
            many += kind(row) == kind ? 1 : 0;
        }
        return many;
    }

    int tally(int what) {
        if (!in(what, 0, 2)) return OUTSIDE;
        if (what == 2) return kinds(0);
        BigInteger product = BigInteger.ONE;
        for (int row = 0; row < wall.size(); row++) {
            if (kind(row) == 0) {
                product = product.multiply(big(what == 0 ? wall.get(row).a : wall.get(row).b));
            }
        }
        return product.mod(P).intValue();
    }

    int copy(int word) {
        if (!in(word, 0, 9972)) return OUTSIDE;
        if (copy.size() == 30) return FULL;
        copy.add(word);
        return copy.size();
    }

    int parted() {
        for (int row = 0; row < Math.min(wall.size(), copy.size()); row++) {
            if (word(row) != copy.get(row)) return row;
        }
        return NONE;
    }

    // 4

    private static long fraction(BigInteger upper, BigInteger lower, int part) {
        BigInteger gcd = upper.gcd(lower);
        return (part == 0 ? upper : lower).divide(gcd).longValueExact();
    }

    /** One after another is asked, and each time it is none of the false ones: upper and lower number. */
    private static BigInteger[] noneAsked(int n, int k, int x) {
        BigInteger upper = BigInteger.ONE, lower = BigInteger.ONE;
        for (int i = 0; i < x; i++) {
            upper = upper.multiply(big(Math.max(0, n - k - i)));
            lower = lower.multiply(big(n - i));
        }
        return new BigInteger[] {upper, lower};
    }

    private static boolean atMost(BigInteger[] odds, int hundredths) {
        return odds[0].multiply(big(100)).compareTo(odds[1].multiply(big(hundredths))) <= 0;
    }

    long lies(int n, int k, int x, int part) {
        if (!in(n, 1, 40) || !in(k, 0, n) || !in(x, 0, n) || !in(part, 0, 1)) return LOST - 2;
        BigInteger[] odds = noneAsked(n, k, x);
        return fraction(odds[0], odds[1], part);
    }

    int ask(int n, int k, int s) {
        if (!in(n, 1, 40) || !in(k, 0, n) || !in(s, 0, 100)) return OUTSIDE;
        for (int x = 0; x <= n; x++) {
            if (atMost(noneAsked(n, k, x), s)) return x;
        }
        return NONE;
    }

    /** Slips drawn one by one: ways[i] is in how many of all orders i of them are for the one. */
    private static BigInteger[] inOrder(int all, int n) {
        BigInteger[] ways = new BigInteger[n + 1];
        java.util.Arrays.fill(ways, BigInteger.ZERO);
        ways[0] = BigInteger.ONE;
        int one = all - all / 2, other = all / 2;
        for (int d = 0; d < n; d++) {
            for (int i = d + 1; i >= 0; i--) {
                BigInteger stay = ways[i].multiply(big(Math.max(0, other - (d - i))));
                BigInteger more = i == 0 ? BigInteger.ZERO : ways[i - 1].multiply(big(Math.max(0, one - (i - 1))));
                ways[i] = stay.add(more);
            }
        }
        return ways;
    }

    private static BigInteger[] forTheOne(int all, int n, int w) {
        BigInteger[] ways = inOrder(all, n);
        BigInteger upper = BigInteger.ZERO, lower = BigInteger.ZERO;
        for (int i = 0; i <= n; i++) {
            lower = lower.add(ways[i]);
            upper = i >= w ? upper.add(ways[i]) : upper;
        }
        return new BigInteger[] {upper, lower};
    }

    long slips(int all, int n, int w, int part) {
        if (!in(all, 2, 40) || !in(n, 0, all) || !in(w, 0, n) || !in(part, 0, 1)) return LOST - 2;
        BigInteger[] odds = forTheOne(all, n, w);
        return fraction(odds[0], odds[1], part);
    }

    int drawn(int seed, int all, int n) {
        if (!in(seed, 1, 1000000) || !in(all, 2, 40) || !in(n, 1, 40)) return OUTSIDE;
        BigInteger prime = big(2147483647);
        return big(16807).modPow(big(n), prime).multiply(big(seed)).mod(prime).mod(big(all)).intValue();
    }

    int sure(int all, int s) {
        if (!in(all, 2, 40) || !in(s, 0, 100)) return OUTSIDE;
        for (int n = 1; n <= all; n++) {
            if (atMost(forTheOne(all, n, n), s)) return n;
        }
        return NONE;
    }

    // 5

    private static boolean sums(int a, int b, int c, int ka, int kb, int kc) {
        return in(a, 0, 8) && in(b, 0, 8) && in(c, 0, 8) && in(a + b + c, 1, 8)
            && in(ka, 0, a) && in(kb, 0, b) && in(kc, 0, c);
    }

    long told(int a, int b, int c, int ka, int kb, int kc, int j, int part) {
        if (!sums(a, b, c, ka, kb, kc) || !in(j, 0, 2) || !in(part, 0, 1)) return LOST - 2;
        int open = a + b + c - ka - kb - kc;
        if (open == 0) return LOST - 3;
        // All ways in which those who are not known can have voted, tried one by one.
        long all = 0, those = 0;
        for (int way = 0; way < Math.round(Math.pow(3, open)); way++) {
            int[] votes = {ka, kb, kc};
            for (int v = 0, rest = way; v < open; v++, rest /= 3) {
                votes[rest % 3]++;
            }
            if (votes[0] == a && votes[1] == b && votes[2] == c) {
                all++;
                those += way % 3 == j ? 1 : 0;
            }
        }
        return fraction(big(those), big(all), part);
    }

    int forced(int a, int b, int c, int ka, int kb, int kc) {
        if (!sums(a, b, c, ka, kb, kc)) return OUTSIDE;
        // The rest is known for sure once all of it voted alike: the least asked over all ways to ask.
        int least = 99;
        for (int x = 0; x <= a - ka; x++) {
            for (int y = 0; y <= b - kb; y++) {
                for (int z = 0; z <= c - kc; z++) {
                    int kindsLeft = (a - ka > x ? 1 : 0) + (b - kb > y ? 1 : 0) + (c - kc > z ? 1 : 0);
                    if (kindsLeft <= 1) least = Math.min(least, x + y + z);
                }
            }
        }
        return least;
    }

    int count(int what) {
        if (in(what, 10, 14)) return kinds(what - 10);
        if (!in(what, 0, 5)) return OUTSIDE;
        return new int[] {wall.size(), signs.length(), h().intValue(), need, close, copy.size()}[what];
    }
}
