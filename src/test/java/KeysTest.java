/** Promises 1 to 8: a new object, keys and seals. The numbers were worked out apart from the class. */
public final class KeysTest {
    private static final int UNKNOWN = -1, OUTSIDE = -2, STATE = -3, NO = -5, NONE = -6;
    private static final Due DUE = new Due();

    public static void main(String[] args) {
        newObject();
        key();
        holder();
        seal();
        right();
        open();
        weight();
        opened();
        DUE.end();
    }

    private static WallCount withKey() {
        WallCount x = new WallCount();
        x.key(3, 17, 29, 31);
        return x;
    }

    private static void newObject() {
        WallCount x = new WallCount();
        DUE.is("1 H", x.count(2), 4);
        DUE.is("1 NEED", x.count(3), 1);
        for (int i = 1; i <= 5; i++) {
            DUE.is("1 PART", x.holder(i, 0), 1);
            DUE.is("1 SEEN", x.holder(i, 1), 4);
        }
        DUE.is("1 ROWS", x.count(0), 0);
        DUE.is("1 signs", x.count(1), 0);
        DUE.is("1 CLOSE", x.count(4), 100);
        DUE.is("1 COPY", x.count(5), 0);
        DUE.is("1 no ROW", x.ofRow(0, 0), UNKNOWN);
        DUE.is("1 parted", x.parted(), NONE);
    }

    private static void key() {
        WallCount x = new WallCount();
        DUE.is("2 H", x.key(3, 17, 29, 31), 1689);
        DUE.is("2 NEED", x.count(3), 3);
        int[][] outside = {{0, 1, 1, 1}, {4, 1, 1, 1}, {1, -1, 1, 1}, {1, 5003, 1, 1}, {1, 1, -1, 1}, {1, 1, 5003, 1},
            {1, 1, 1, -1}, {1, 1, 1, 5003}, {Integer.MIN_VALUE, 1, 1, 1}, {1, 1, 1, Integer.MAX_VALUE}};
        for (int[] o : outside) {
            DUE.is("2 outside", x.key(o[0], o[1], o[2], o[3]), OUTSIDE);
        }
        DUE.is("2 H stays", x.count(2), 1689);
        DUE.is("2 PART stays", x.holder(5, 0), 937);
        DUE.is("2 edges", x.key(1, 0, 0, 0), 1);
        DUE.is("2 edges", x.key(3, 5002, 5002, 5002), 2502);
        DUE.is("2 again", x.key(2, 2, 0, 0), 16);
        x.row(0, 0, 0, 0);
        DUE.is("2 with a ROW", x.key(1, 1, 0, 0), STATE);
        DUE.is("2 with a ROW, outside first", x.key(4, 1, 0, 0), OUTSIDE);
        DUE.is("2 H stays with a ROW", x.count(2), 16);
        DUE.is("2 NEED stays with a ROW", x.count(3), 2);
    }

    private static void holder() {
        WallCount x = withKey();
        int[] parts = {77, 199, 383, 629, 937};
        int[] seen = {9739, 3300, 6451, 4496, 1290};
        for (int i = 1; i <= 5; i++) {
            DUE.is("3 PART", x.holder(i, 0), parts[i - 1]);
            DUE.is("3 SEEN", x.holder(i, 1), seen[i - 1]);
        }
        x.key(2, 17, 29, 31);
        DUE.is("3 c2 does not count", x.holder(5, 0), 162);
        x.key(1, 17, 29, 31);
        DUE.is("3 c1 does not count", x.holder(5, 0), 17);
        x.key(3, 5002, 5002, 5002);
        DUE.is("3 left over", x.holder(5, 0), 5003 - 31);
        DUE.is("3 unknown", x.holder(0, 0), UNKNOWN);
        DUE.is("3 unknown", x.holder(6, 0), UNKNOWN);
        DUE.is("3 unknown first", x.holder(6, 2), UNKNOWN);
        DUE.is("3 outside", x.holder(1, -1), OUTSIDE);
        DUE.is("3 outside", x.holder(5, 2), OUTSIDE);
    }

    private static void seal() {
        WallCount x = new WallCount();
        DUE.is("4 A", x.seal(3, 11, 0), 1371);
        DUE.is("4 B by the first key", x.seal(3, 11, 1), 7688);
        x = withKey();
        DUE.is("4 A by another key", x.seal(3, 11, 0), 1371);
        DUE.is("4 B by another key", x.seal(3, 11, 1), 3980);
        DUE.is("4 edge", x.seal(5002, 1, 1), 2924);
        DUE.is("4 edge", x.seal(0, 5002, 0), 2502);
        DUE.is("4 edge", x.seal(0, 5002, 1), 788);
        DUE.is("4 nothing", x.seal(0, 0, 1), 1);
        int[][] outside = {{-1, 0, 0}, {5003, 0, 0}, {0, -1, 0}, {0, 5003, 0}, {0, 0, -1}, {0, 0, 2}};
        for (int[] o : outside) {
            DUE.is("4 outside", x.seal(o[0], o[1], o[2]), OUTSIDE);
        }
        // Sealed ones multiplied are their sum, sealed.
        int a = x.seal(5, 9, 0) * x.seal(6, 10, 0) % 10007;
        int b = x.seal(5, 9, 1) * x.seal(6, 10, 1) % 10007;
        DUE.is("4 sum A", a, x.seal(11, 19, 0));
        DUE.is("4 sum B", b, x.seal(11, 19, 1));
    }

    private static void right() {
        WallCount x = new WallCount();
        DUE.is("5 right", x.right(1, 1), 1);
        DUE.is("5 right", x.right(3, 9), 1);
        DUE.is("5 A is no square", x.right(5, 1), 0);
        DUE.is("5 B is no square", x.right(1, 5), 0);
        DUE.is("5 less 1", x.right(10006, 1), 0);
        DUE.is("5 less 1", x.right(1, 10006), 0);
        int[] never = {0, -1, 10007, 10008, 10011, Integer.MIN_VALUE, Integer.MAX_VALUE};
        for (int n : never) {
            DUE.is("5 no A", x.right(n, 1), 0);
            DUE.is("5 no B", x.right(1, n), 0);
        }
        int squares = 0;
        for (int a = 0; a <= 10007; a++) {
            // Nothing is promised of an object after 512 calls.
            x = a % 500 == 0 ? new WallCount() : x;
            squares += x.right(a, 4);
        }
        DUE.is("5 half of all are right", squares, 5003);
    }

    private static void open() {
        WallCount x = withKey();
        int[] shares = {3017, 7109, 95, 2394, 8850};
        for (int i = 1; i <= 5; i++) {
            DUE.is("6 share", x.open(i, 5), shares[i - 1]);
        }
        DUE.is("6 edge", x.open(1, 1), 1);
        DUE.is("6 edge", x.open(1, 10006), 10006);
        DUE.is("6 unknown", x.open(0, 5), UNKNOWN);
        DUE.is("6 unknown first", x.open(6, 0), UNKNOWN);
        DUE.is("6 outside", x.open(1, 0), OUTSIDE);
        DUE.is("6 outside", x.open(5, 10007), OUTSIDE);
        DUE.is("6 outside", x.open(5, -4), OUTSIDE);
    }

    private static void weight() {
        WallCount x = new WallCount();
        DUE.is("7 alone", x.weight(1, 2), 1);
        DUE.is("7 alone", x.weight(5, 32), 1);
        DUE.all("7 of 1, 3, 5", new long[] {x.weight(1, 42), x.weight(3, 42), x.weight(5, 42)}, 1878, 3751, 4378);
        DUE.all("7 of 2, 4", new long[] {x.weight(2, 20), x.weight(4, 20)}, 2, 5002);
        long[] all = new long[5];
        for (int i = 1; i <= 5; i++) {
            all[i - 1] = x.weight(i, 62);
        }
        DUE.all("7 of all", all, 5, 4993, 10, 4998, 1);
        DUE.is("7 unknown", x.weight(0, 63), UNKNOWN);
        DUE.is("7 unknown", x.weight(6, 126), UNKNOWN);
        DUE.is("7 not in it", x.weight(2, 2), UNKNOWN);
        DUE.is("7 not in it, first", x.weight(1, 0), UNKNOWN);
        DUE.is("7 not in it, first", x.weight(1, 64), UNKNOWN);
        DUE.is("7 not in it, first", x.weight(1, 1), UNKNOWN);
        DUE.is("7 odd", x.weight(1, 3), OUTSIDE);
        DUE.is("7 beyond", x.weight(1, 66), OUTSIDE);
        DUE.is("7 below", x.weight(1, -2), OUTSIDE);
        DUE.is("7 below", x.weight(5, Integer.MIN_VALUE + 32), OUTSIDE);
    }

    private static void opened() {
        WallCount x = withKey();
        int[][] sets = {{14}, {44}, {62}, {56}};
        for (int m : new int[] {0, 1, 2, 199, 200}) {
            for (int[] set : sets) {
                int a = x.seal(m, 77, 0);
                int b = x.seal(m, 77, 1);
                DUE.is("8 G to m", x.opened(a, b, set[0], 0), x.seal(0, m, 0));
                DUE.is("8 m", x.opened(a, b, set[0], 1), m);
            }
        }
        DUE.is("8 G to 200", x.opened(9739, 8984, 14, 0), 3193);
        DUE.is("8 G to 201", x.opened(9739, 5915, 14, 0), 2765);
        DUE.is("8 beyond 200", x.opened(9739, 5915, 14, 1), NONE);
        DUE.is("8 a pair that is not right", x.opened(5, 7, 14, 0), 6602);
        DUE.is("8 a pair that is not right", x.opened(5, 7, 30, 0), 3405);
        int[][] outside = {{0, 1, 14, 0}, {10007, 1, 14, 0}, {1, 0, 14, 0}, {1, 10007, 14, 0}, {1, 1, 0, 0}, {1, 1, 15, 0},
            {1, 1, 64, 0}, {1, 1, -2, 0}, {1, 1, 14, -1}, {1, 1, 14, 2}, {1, 1, 2, 2}};
        for (int[] o : outside) {
            DUE.is("8 outside", x.opened(o[0], o[1], o[2], o[3]), OUTSIDE);
        }
        DUE.is("8 too few", x.opened(1, 1, 6, 0), NO);
        DUE.is("8 too few", x.opened(1, 1, 32, 1), NO);
        x.key(2, 17, 29, 31);
        DUE.is("8 two are enough", x.opened(x.seal(9, 5, 0), x.seal(9, 5, 1), 34, 1), 9);
        DUE.is("8 one is not", x.opened(1, 1, 2, 0), NO);
        x.key(1, 17, 29, 31);
        DUE.is("8 one is enough", x.opened(x.seal(9, 5, 0), x.seal(9, 5, 1), 8, 1), 9);
    }
}
