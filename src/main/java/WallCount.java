/** A count that all can check: sealed votes, a shared key, proofs, a wall, booths, slips and buyers. */
public final class WallCount {
    public static final int NONE = -6, UNKNOWN = -1, OUTSIDE = -2, STATE = -3, FULL = -4, NO = -5;
    public static final long LOST = -1000000000000000000L;

    private static final int P = 10007;
    private static final int Q = 5003;
    private static final int G = 4;
    private static final int HOLDERS = 5;
    private static final int SET_LEAST = 2;
    private static final int SET_MOST = 62;
    private static final int OPENED_MOST = 200;

    private static final int VOTERS = 12;
    private static final int TRAITS = 3;
    private static final int BARRED = 2;
    private static final int AGE_MOST = 120;
    private static final int SIGNS = 40;

    private static final int ROWS = 30;
    private static final int NUMBER_MOST = 1000000;
    private static final int HOUR_MOST = 999;
    private static final int WORDS = 9973;
    private static final int HEADS = 999983;

    private static final int IS_COUNTED = 0;
    private static final int IS_LATE = 1;
    private static final int IS_SPOILT = 2;
    private static final int IS_BARRED = 3;
    private static final int IS_OLD = 4;

    private static final int SLIPS_MOST = 40;
    private static final int HUNDRED = 100;
    private static final int SUMS_MOST = 8;

    private final Key secret;
    private final Proof proof;
    private final Roll roll;
    private final Wall wall;

    public WallCount() {
        secret = new Key();
        proof = new Proof();
        roll = new Roll();
        wall = new Wall();
    }

    // ---- 1 keys, seals

    public int key(int need, int c0, int c1, int c2) {
        if (!within(need, 1, 3) || !isExponent(c0) || !isExponent(c1) || !isExponent(c2)) {
            return OUTSIDE;
        }
        if (wall.size() > 0) {
            return STATE;
        }
        secret.become(need, c0, c1, c2);
        return secret.h();
    }

    public int holder(int i, int what) {
        if (!isHolder(i)) {
            return UNKNOWN;
        }
        if (!within(what, 0, 1)) {
            return OUTSIDE;
        }
        return what == 0 ? secret.part(i) : Powers.ofG(secret.part(i));
    }

    public int seal(int m, int r, int part) {
        if (!isExponent(m) || !isExponent(r) || !within(part, 0, 1)) {
            return OUTSIDE;
        }
        return part == 0 ? Powers.ofG(r) : secret.sealedB(m, r);
    }

    public int right(int a, int b) {
        return Powers.isRight(a, b) ? 1 : 0;
    }

    public int open(int i, int a) {
        if (!isHolder(i)) {
            return UNKNOWN;
        }
        if (!isResidue(a)) {
            return OUTSIDE;
        }
        return secret.share(i, a);
    }

    public int weight(int i, int set) {
        if (!isHolder(i) || !isIn(i, set)) {
            return UNKNOWN;
        }
        if (!isSet(set)) {
            return OUTSIDE;
        }
        return Key.weightIn(i, set);
    }

    public int opened(int a, int b, int set, int what) {
        if (!isResidue(a) || !isResidue(b) || !isSet(set) || !within(what, 0, 1)) {
            return OUTSIDE;
        }
        if (Integer.bitCount(set) < secret.need()) {
            return NO;
        }
        int power = secret.unsealed(a, b, set);
        return what == 0 ? power : Powers.exponentOf(power);
    }

    // ---- 2 proofs

    public int prove(int m, int r, int w, int c, int z, int i) {
        if (!within(m, 0, 1) || !areLots(r, w, c, z) || !within(i, 0, 3)) {
            return OUTSIDE;
        }
        proof.make(secret, m, r, w, c, z);
        return proof.number(i);
    }

    public int check(int a, int b, int c0, int z0, int c1, int z1) {
        proof.become(c0, z0, c1, z1);
        return proof.holds(secret, a, b) ? 1 : 0;
    }

    // ---- 3 the wall

    public int voter(int voter, int what, int v) {
        if (!isVoter(voter)) {
            return UNKNOWN;
        }
        if (!within(what, 0, TRAITS - 1) || !within(v, 0, what == BARRED ? 1 : AGE_MOST)) {
            return OUTSIDE;
        }
        return roll.change(voter, what, v);
    }

    public int say(int sign) {
        if (!within(sign, 33, 126)) {
            return OUTSIDE;
        }
        return roll.draft().add(sign) ? roll.draft().size() : FULL;
    }

    public int wipe() {
        int before = roll.draft().size();
        roll.draft().clear();
        return before;
    }

    public int fault() {
        return roll.draft().faultPlace();
    }

    public int rule() {
        if (roll.draft().faultPlace() != NONE) {
            return NO;
        }
        roll.adoptDraft();
        return 1;
    }

    public int may(int voter) {
        if (!isVoter(voter)) {
            return UNKNOWN;
        }
        return roll.allows(voter) ? 1 : 0;
    }

    public int close(int hour) {
        if (!within(hour, 0, HOUR_MOST)) {
            return OUTSIDE;
        }
        return wall.changeClose(hour);
    }

    public int row(int voter, int a, int b, int hour) {
        if (!isVoter(voter)) {
            return UNKNOWN;
        }
        if (!isRowNumber(a) || !isRowNumber(b) || !within(hour, 0, HOUR_MOST)) {
            return OUTSIDE;
        }
        if (wall.isFull()) {
            return FULL;
        }
        proof.become(0, 0, 0, 0);
        return wall.add(new Row(voter, a, b, hour, proof.holds(secret, a, b), false));
    }

    public int attach(int row, int c0, int z0, int c1, int z1) {
        Row found = wall.at(row);
        if (found == null) {
            return UNKNOWN;
        }
        if (!isRowNumber(c0) || !isRowNumber(z0) || !isRowNumber(c1) || !isRowNumber(z1)) {
            return OUTSIDE;
        }
        if (found.proved) {
            return STATE;
        }
        proof.become(c0, z0, c1, z1);
        found.sound = proof.holds(secret, found.a, found.b);
        found.proved = true;
        return 1;
    }

    public int cast(int voter, int m, int hour, int r, int w, int c, int z) {
        if (!isVoter(voter)) {
            return UNKNOWN;
        }
        if (!within(m, 0, 1) || !within(hour, 0, HOUR_MOST) || !areLots(r, w, c, z)) {
            return OUTSIDE;
        }
        if (wall.isFull()) {
            return FULL;
        }
        int a = Powers.ofG(r);
        int b = secret.sealedB(m, r);
        proof.make(secret, m, r, w, c, z);
        return wall.add(new Row(voter, a, b, hour, proof.holds(secret, a, b), true));
    }

    public int ofRow(int row, int what) {
        Row found = wall.at(row);
        if (found == null) {
            return UNKNOWN;
        }
        switch (what) {
            case 0: return found.voter;
            case 1: return found.a;
            case 2: return found.b;
            case 3: return found.hour;
            case 4: return wall.kindOf(row, roll);
            case 5: return found.word();
            case 6: return wall.headBehind(row);
            default: return OUTSIDE;
        }
    }

    public int find(int word, int from) {
        if (!within(from, 0, ROWS)) {
            return OUTSIDE;
        }
        return wall.firstWithWord(word, from);
    }

    public int tally(int what) {
        switch (what) {
            case 0: return wall.product(0, roll);
            case 1: return wall.product(1, roll);
            case 2: return wall.howManyAre(IS_COUNTED, roll);
            default: return OUTSIDE;
        }
    }

    public int copy(int word) {
        if (!within(word, 0, WORDS - 1)) {
            return OUTSIDE;
        }
        return wall.addCopied(word) ? wall.copiedSize() : FULL;
    }

    public int parted() {
        return wall.firstUnlike();
    }

    // ---- 4 booths, slips

    public long lies(int n, int k, int x, int part) {
        if (!areBooth(n, k) || !within(x, 0, n) || !within(part, 0, 1)) {
            return LOST + OUTSIDE;
        }
        return Odds.inLowestTerms(Odds.choose(n - k, x), Odds.choose(n, x), part);
    }

    public int ask(int n, int k, int s) {
        if (!areBooth(n, k) || !within(s, 0, HUNDRED)) {
            return OUTSIDE;
        }
        return Odds.leastDrawn(n - k, n, 0, s);
    }

    public long slips(int all, int n, int w, int part) {
        if (!within(all, 2, SLIPS_MOST) || !within(n, 0, all) || !within(w, 0, n) || !within(part, 0, 1)) {
            return LOST + OUTSIDE;
        }
        return Odds.inLowestTerms(Odds.waysForOne(all, n, w), Odds.choose(all, n), part);
    }

    public int drawn(int seed, int all, int n) {
        if (!within(seed, 1, NUMBER_MOST) || !within(all, 2, SLIPS_MOST) || !within(n, 1, SLIPS_MOST)) {
            return OUTSIDE;
        }
        return Odds.slipDrawn(seed, all, n);
    }

    public int sure(int all, int s) {
        if (!within(all, 2, SLIPS_MOST) || !within(s, 0, HUNDRED)) {
            return OUTSIDE;
        }
        return Odds.leastDrawn(Odds.forOne(all), all, 1, s);
    }

    // ---- 5 buyers

    public long told(int a, int b, int c, int ka, int kb, int kc, int j, int part) {
        if (!areSums(a, b, c) || !areKnown(a, b, c, ka, kb, kc) || !within(j, 0, 2) || !within(part, 0, 1)) {
            return LOST + OUTSIDE;
        }
        int unknown = a - ka + b - kb + c - kc;
        if (unknown == 0) {
            return LOST + STATE;
        }
        int those = j == 0 ? a - ka : j == 1 ? b - kb : c - kc;
        return Odds.inLowestTerms(those, unknown, part);
    }

    public int forced(int a, int b, int c, int ka, int kb, int kc) {
        if (!areSums(a, b, c) || !areKnown(a, b, c, ka, kb, kc)) {
            return OUTSIDE;
        }
        int unknown = a - ka + b - kb + c - kc;
        return unknown - Math.max(a - ka, Math.max(b - kb, c - kc));
    }

    public int count(int what) {
        if (within(what, 10, 14)) {
            return wall.howManyAre(what - 10, roll);
        }
        switch (what) {
            case 0: return wall.size();
            case 1: return roll.draft().size();
            case 2: return secret.h();
            case 3: return secret.need();
            case 4: return wall.closeHour();
            case 5: return wall.copiedSize();
            default: return OUTSIDE;
        }
    }

    // ---- what the arguments must be

    private static boolean within(int number, int least, int most) {
        return number >= least && number <= most;
    }

    private static boolean isExponent(int number) {
        return within(number, 0, Q - 1);
    }

    private static boolean areLots(int r, int w, int c, int z) {
        return isExponent(r) && isExponent(w) && isExponent(c) && isExponent(z);
    }

    private static boolean isResidue(int number) {
        return within(number, 1, P - 1);
    }

    private static boolean isHolder(int i) {
        return within(i, 1, HOLDERS);
    }

    private static boolean isSet(int set) {
        return within(set, SET_LEAST, SET_MOST) && (set & 1) == 0;
    }

    private static boolean isIn(int i, int set) {
        return (set >> i & 1) == 1;
    }

    private static boolean isVoter(int voter) {
        return within(voter, 0, VOTERS - 1);
    }

    private static boolean isRowNumber(int number) {
        return within(number, 0, NUMBER_MOST);
    }

    private static boolean areBooth(int n, int k) {
        return within(n, 1, SLIPS_MOST) && within(k, 0, n);
    }

    private static boolean areSums(int a, int b, int c) {
        return within(a, 0, SUMS_MOST) && within(b, 0, SUMS_MOST) && within(c, 0, SUMS_MOST)
            && within(a + b + c, 1, SUMS_MOST);
    }

    private static boolean areKnown(int a, int b, int c, int ka, int kb, int kc) {
        return within(ka, 0, a) && within(kb, 0, b) && within(kc, 0, c);
    }

    /** Products and powers left over by a prime; all of them stay below 2 to 31, so int is wide enough. */
    private static final class Powers {
        /** Every exponent here is below P, which is below 2 to this. */
        private static final int EXPONENT_BITS = 14;

        static int power(int base, int exponent, int prime) {
            if (prime <= 0) {
                return 0;
            }
            int result = 1;
            int square = base % prime;
            for (int bit = 0; bit < EXPONENT_BITS; bit++) {
                if ((exponent >> bit & 1) == 1) {
                    result = result * square % prime;
                }
                square = square * square % prime;
            }
            return result;
        }

        static int of(int base, int exponent) {
            return power(base, exponent, P);
        }

        static int ofG(int exponent) {
            return power(G, exponent, P);
        }

        /** The number whose product with this one is 1: by Fermat, its power by the prime less 2. */
        static int inverse(int number, int prime) {
            return power(number, prime - 2, prime);
        }

        static int divided(int upper, int lower) {
            return upper * inverse(lower, P) % P;
        }

        static boolean isRight(int a, int b) {
            return isResidue(a) && isResidue(b) && of(a, Q) == 1 && of(b, Q) == 1;
        }

        static int exponentOf(int power) {
            int reached = 1;
            for (int m = 0; m <= OPENED_MOST; m++) {
                if (reached == power) {
                    return m;
                }
                reached = reached * G % P;
            }
            return NONE;
        }
    }

    /** THE KEY with its parts. */
    private static final class Key {
        private int need;
        private int c0;
        private int c1;
        private int c2;
        private int h;

        Key() {
            need = 1;
            c0 = 1;
            c1 = 0;
            c2 = 0;
            h = G;
        }

        void become(int newNeed, int first, int second, int third) {
            need = newNeed;
            c0 = first;
            c1 = newNeed >= 2 ? second : 0;
            c2 = newNeed >= 3 ? third : 0;
            h = Powers.ofG(first);
        }

        int need() {
            return need;
        }

        int h() {
            return h;
        }

        int part(int i) {
            return (c0 + c1 * i + c2 * i * i) % Q;
        }

        int sealedB(int m, int r) {
            return Powers.of(h, r) * Powers.ofG(m) % P;
        }

        int share(int i, int a) {
            return Powers.of(a, part(i));
        }

        static int weightIn(int i, int set) {
            int product = 1;
            for (int j = 1; j <= HOLDERS; j++) {
                if (j != i && isIn(j, set)) {
                    product = product * j % Q * Powers.inverse(j - i + Q, Q) % Q;
                }
            }
            return product;
        }

        int unsealed(int a, int b, int set) {
            int product = 1;
            for (int i = 1; i <= HOLDERS; i++) {
                if (isIn(i, set)) {
                    product = product * Powers.of(share(i, a), weightIn(i, set)) % P;
                }
            }
            return Powers.divided(b, product);
        }
    }

    /** A PROOF; one object serves all calls, so it is told or made anew before each use. */
    private static final class Proof {
        private int c0;
        private int z0;
        private int c1;
        private int z1;

        void become(int newC0, int newZ0, int newC1, int newZ1) {
            c0 = newC0;
            z0 = newZ0;
            c1 = newC1;
            z1 = newZ1;
        }

        int number(int i) {
            switch (i) {
                case 0: return c0;
                case 1: return z0;
                case 2: return c1;
                default: return z1;
            }
        }

        boolean holds(Key key, int a, int b) {
            if (!Powers.isRight(a, b) || !areLots(c0, z0, c1, z1)) {
                return false;
            }
            int mix = mixedWith(mixedWith(1, a), b);
            mix = mixedWith(mixedWith(mix, sOf(a, c0, z0)), tOf(key, b, 0, c0, z0));
            mix = mixedWith(mixedWith(mix, sOf(a, c1, z1)), tOf(key, b, 1, c1, z1));
            return (c0 + c1) % Q == mix;
        }

        void make(Key key, int m, int r, int w, int c, int z) {
            int a = Powers.ofG(r);
            int b = key.sealedB(m, r);
            int ownS = Powers.ofG(w);
            int ownT = Powers.of(key.h(), w);
            int otherS = sOf(a, c, z);
            int otherT = tOf(key, b, 1 - m, c, z);
            int mix = mixedWith(mixedWith(1, a), b);
            mix = mixedWith(mixedWith(mix, m == 0 ? ownS : otherS), m == 0 ? ownT : otherT);
            mix = mixedWith(mixedWith(mix, m == 0 ? otherS : ownS), m == 0 ? otherT : ownT);
            int ownC = (mix - c + Q) % Q;
            int ownZ = (w + ownC * r) % Q;
            if (m == 0) {
                become(ownC, ownZ, c, z);
            } else {
                become(c, z, ownC, ownZ);
            }
        }

        private static int sOf(int a, int c, int z) {
            return Powers.divided(Powers.ofG(z), Powers.of(a, c));
        }

        private static int tOf(Key key, int b, int v, int c, int z) {
            int without = Powers.divided(b, Powers.ofG(v));
            return Powers.divided(Powers.of(key.h(), z), Powers.of(without, c));
        }

        private static int mixedWith(int mix, int number) {
            return (mix * 31 + number) % Q;
        }
    }

    /** The signs of a text that says who may vote. */
    private static final class Text {
        private static final int WANTS_NAME = 0;
        private static final int WANTS_COMPARE = 1;
        private static final int WANTS_DIGIT = 2;
        private static final int HAS_DIGIT = 3;
        private static final int HAS_THREE = 5;
        private static final int BROKEN = -1;

        private final int[] signs;
        private int size;

        Text() {
            signs = new int[SIGNS];
            size = 0;
        }

        int size() {
            return size;
        }

        void clear() {
            size = 0;
        }

        boolean add(int sign) {
            if (size < 0 || size >= signs.length) {
                return false;
            }
            signs[size] = sign;
            size++;
            return true;
        }

        int faultPlace() {
            int state = WANTS_NAME;
            for (int i = 0; i < size && i < signs.length; i++) {
                state = stateBehind(state, signs[i]);
                if (state == BROKEN) {
                    return i;
                }
            }
            return state >= HAS_DIGIT ? NONE : size;
        }

        private static int stateBehind(int state, int sign) {
            if (state == WANTS_NAME) {
                return isName(sign) ? WANTS_COMPARE : BROKEN;
            }
            if (state == WANTS_COMPARE) {
                return isCompare(sign) ? WANTS_DIGIT : BROKEN;
            }
            if (isDigit(sign)) {
                return state < HAS_THREE ? state + 1 : BROKEN;
            }
            return state >= HAS_DIGIT && isJoin(sign) ? WANTS_NAME : BROKEN;
        }

        /** Asked only of a text without a fault; one without any sign lets all vote. */
        boolean allows(int age, int years, int barred) {
            if (size == 0) {
                return true;
            }
            boolean any = false;
            boolean both = true;
            int had = 0;
            int compare = 0;
            int number = 0;
            for (int i = 0; i < size && i < signs.length; i++) {
                int sign = signs[i];
                if (isName(sign)) {
                    had = sign == 'a' ? age : sign == 'y' ? years : barred;
                    number = 0;
                } else if (isCompare(sign)) {
                    compare = sign;
                } else if (isDigit(sign)) {
                    number = number * 10 + sign - '0';
                } else {
                    both = both && passes(had, compare, number);
                    if (sign == '|') {
                        any = any || both;
                        both = true;
                    }
                }
            }
            return any || both && passes(had, compare, number);
        }

        private static boolean passes(int had, int compare, int number) {
            if (compare == '<') {
                return had < number;
            }
            return compare == '>' ? had > number : had == number;
        }

        private static boolean isName(int sign) {
            return sign == 'a' || sign == 'y' || sign == 'b';
        }

        private static boolean isCompare(int sign) {
            return sign == '<' || sign == '>' || sign == '=';
        }

        private static boolean isDigit(int sign) {
            return sign >= '0' && sign <= '9';
        }

        private static boolean isJoin(int sign) {
            return sign == '&' || sign == '|';
        }
    }

    /** VOTERS, WHO MAY, and the signs said for the next WHO MAY. */
    private static final class Roll {
        private final int[] traits;
        private Text whoMay;
        private Text draft;

        Roll() {
            traits = new int[VOTERS * TRAITS];
            for (int i = 0; i + 1 < traits.length; i += TRAITS) {
                traits[i] = 30;
                traits[i + 1] = 10;
            }
            whoMay = new Text();
            draft = new Text();
        }

        Text draft() {
            return draft;
        }

        void adoptDraft() {
            Text empty = whoMay;
            whoMay = draft;
            draft = empty;
            draft.clear();
        }

        int change(int voter, int what, int v) {
            int before = trait(voter, what);
            int place = voter * TRAITS + what;
            if (place >= 0 && place < traits.length) {
                traits[place] = v;
            }
            return before;
        }

        boolean allows(int voter) {
            return whoMay.allows(trait(voter, 0), trait(voter, 1), trait(voter, BARRED));
        }

        private int trait(int voter, int what) {
            int place = voter * TRAITS + what;
            return place >= 0 && place < traits.length ? traits[place] : 0;
        }
    }

    /** A ROW. Its PROOF is kept as whether it holds: THE KEY stays as it is while there are ROWS. */
    private static final class Row {
        final int voter;
        final int a;
        final int b;
        final int hour;
        boolean sound;
        boolean proved;

        Row(int voter, int a, int b, int hour, boolean sound, boolean proved) {
            this.voter = voter;
            this.a = a;
            this.b = b;
            this.hour = hour;
            this.sound = sound;
            this.proved = proved;
        }

        int word() {
            int word = wordWith(7, voter);
            word = wordWith(word, a);
            word = wordWith(word, b);
            return wordWith(word, hour);
        }

        private static int wordWith(int word, int number) {
            return (word * 131 + number) % WORDS;
        }
    }

    /** THE WALL, CLOSE, and COPY of another wall. */
    private static final class Wall {
        private final Row[] rows;
        private final int[] copied;
        private int size;
        private int copiedSize;
        private int closeHour;

        Wall() {
            rows = new Row[ROWS];
            copied = new int[ROWS];
            size = 0;
            copiedSize = 0;
            closeHour = 100;
        }

        int size() {
            return size;
        }

        int copiedSize() {
            return copiedSize;
        }

        int closeHour() {
            return closeHour;
        }

        int changeClose(int hour) {
            int before = closeHour;
            closeHour = hour;
            return before;
        }

        boolean isFull() {
            return size >= rows.length;
        }

        int add(Row row) {
            if (size < 0 || size >= rows.length) {
                return FULL;
            }
            rows[size] = row;
            size++;
            return size - 1;
        }

        Row at(int number) {
            return number >= 0 && number < size && number < rows.length ? rows[number] : null;
        }

        /** What a ROW is, by who may vote now. */
        int kindOf(int number, Roll roll) {
            Row row = at(number);
            if (row == null) {
                return UNKNOWN;
            }
            if (row.hour > closeHour) {
                return IS_LATE;
            }
            if (!row.sound) {
                return IS_SPOILT;
            }
            if (!roll.allows(row.voter)) {
                return IS_BARRED;
            }
            return hasLaterOne(row.voter, number) ? IS_OLD : IS_COUNTED;
        }

        /** Asked only of a VOTER who may, so that no later ROW of that VOTER is BARRED. */
        private boolean hasLaterOne(int voter, int number) {
            for (int later = number + 1; later < size; later++) {
                Row row = at(later);
                if (row != null && row.voter == voter && row.hour <= closeHour && row.sound) {
                    return true;
                }
            }
            return false;
        }

        int howManyAre(int kind, Roll roll) {
            int many = 0;
            for (int i = 0; i < size; i++) {
                if (kindOf(i, roll) == kind) {
                    many++;
                }
            }
            return many;
        }

        /** The product of all A (part 0) or all B (1) that COUNT. */
        int product(int part, Roll roll) {
            int product = 1;
            for (int i = 0; i < size; i++) {
                Row row = at(i);
                if (row != null && kindOf(i, roll) == IS_COUNTED) {
                    product = product * (part == 0 ? row.a : row.b) % P;
                }
            }
            return product;
        }

        int headBehind(int number) {
            long head = 1;
            for (int i = 0; i <= number && i < size; i++) {
                head = (head * 10007 + wordOf(i)) % HEADS;
            }
            return (int) head;
        }

        int firstWithWord(int word, int from) {
            for (int i = from; i < size; i++) {
                if (wordOf(i) == word) {
                    return i;
                }
            }
            return NONE;
        }

        private int wordOf(int number) {
            Row row = at(number);
            return row == null ? NONE : row.word();
        }

        boolean addCopied(int word) {
            if (copiedSize < 0 || copiedSize >= copied.length) {
                return false;
            }
            copied[copiedSize] = word;
            copiedSize++;
            return true;
        }

        int firstUnlike() {
            for (int i = 0; i < size && i < copiedSize && i < copied.length; i++) {
                if (wordOf(i) != copied[i]) {
                    return i;
                }
            }
            return NONE;
        }
    }

    /** Exact odds; 40 over 20 times a hundred is far inside a long. */
    private static final class Odds {
        /** More steps than Euclid needs for any two longs. */
        private static final int EUCLID_STEPS = 100;

        static long choose(int n, int k) {
            if (k < 0 || k > n) {
                return 0;
            }
            long ways = 1;
            for (int i = 1; i <= k; i++) {
                ways = ways * (n - k + i) / i;
            }
            return ways;
        }

        static int forOne(int all) {
            return all - all / 2;
        }

        static long waysForOne(int all, int n, int w) {
            long ways = 0;
            for (int i = w; i <= n; i++) {
                ways += choose(forOne(all), i) * choose(all / 2, n - i);
            }
            return ways;
        }

        /** The least number drawn, from one on, by which the odds that all are of some are s hundredths or less. */
        static int leastDrawn(int some, int all, int least, int s) {
            for (int x = least; x <= all; x++) {
                if (choose(some, x) * HUNDRED <= choose(all, x) * s) {
                    return x;
                }
            }
            return NONE;
        }

        static int slipDrawn(int seed, int all, int n) {
            if (all <= 0) {
                return NONE;
            }
            long lot = seed;
            for (int i = 0; i < n; i++) {
                lot = lot * 16807 % 2147483647L;
            }
            return (int) (lot % all);
        }

        static long inLowestTerms(long upper, long lower, int part) {
            if (upper == 0) {
                return part == 0 ? 0 : 1;
            }
            long shared = greatestShared(upper, lower);
            if (shared == 0) {
                return 0;
            }
            return part == 0 ? upper / shared : lower / shared;
        }

        private static long greatestShared(long one, long other) {
            long greater = one;
            long less = other;
            for (int step = 0; step < EUCLID_STEPS && less != 0; step++) {
                long rest = greater % less;
                greater = less;
                less = rest;
            }
            return greater;
        }
    }
}
