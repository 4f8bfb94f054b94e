/**
 * Calls with few enough arguments, over the whole range of these and one beyond each end, held against the model.
 * Not whole: right() has 4 for the other number, open() the first key alone, drawn() chosen seeds, fault() short texts.
 */
public final class WholeRangeTest {
    /** Nothing is promised of an object after as many calls. */
    private static final int CALLS_OF_ONE = 512;
    private static final Due DUE = new Due();
    private static final Model MODEL = new Model();

    private static WallCount object = new WallCount();
    private static int calls = 0;

    public static void main(String[] args) {
        promise05_right();
        promise06_open();
        promise07_weight();
        promise14_fault();
        promise26_lies();
        promise27_ask();
        promise28_slips();
        promise29_drawn();
        promise30_sure();
        promise31_told();
        DUE.end();
    }

    /** The object for one more call: a new one once the calls of the last are used up. */
    private static WallCount real() {
        calls++;
        if (calls > CALLS_OF_ONE) {
            object = new WallCount();
            calls = 1;
        }
        return object;
    }

    private static void same(long got, long want, String call, int... arguments) {
        if (got != want) {
            DUE.is(call + java.util.Arrays.toString(arguments), got, want);
        } else {
            DUE.is("", 0, 0);
        }
    }

    private static void promise05_right() {
        for (int n = -1; n <= 10008; n++) {
            same(real().right(n, 4), MODEL.right(n, 4), "right", n, 4);
            same(real().right(4, n), MODEL.right(4, n), "right", 4, n);
        }
    }

    private static void promise06_open() {
        for (int i = 0; i <= 6; i++) {
            for (int a = -1; a <= 10008; a++) {
                same(real().open(i, a), MODEL.open(i, a), "open", i, a);
            }
        }
    }

    private static void promise07_weight() {
        for (int i = -1; i <= 7; i++) {
            for (int set = -66; set <= 130; set++) {
                same(real().weight(i, set), MODEL.weight(i, set), "weight", i, set);
            }
        }
    }

    /** Every text of up to six signs of each kind, and one sign that is none. */
    private static void promise14_fault() {
        char[] signs = {'a', '<', '7', '&', '|', '!'};
        for (int length = 0; length <= 6; length++) {
            int texts = 1;
            for (int i = 0; i < length; i++) {
                texts *= signs.length;
            }
            for (int text = 0; text < texts; text++) {
                WallCount x = new WallCount();
                Model model = new Model();
                for (int i = 0, rest = text; i < length; i++, rest /= signs.length) {
                    x.say(signs[rest % signs.length]);
                    model.say(signs[rest % signs.length]);
                }
                same(x.fault(), model.fault(), "fault of text", length, text);
                same(x.rule(), model.rule(), "rule of text", length, text);
                same(x.may(0), model.may(0), "may by text", length, text);
            }
        }
    }

    private static void promise26_lies() {
        for (int n = 0; n <= 41; n++) {
            for (int k = -1; k <= n + 1; k++) {
                for (int x = -1; x <= n + 1; x++) {
                    for (int part = -1; part <= 2; part++) {
                        same(real().lies(n, k, x, part), MODEL.lies(n, k, x, part), "lies", n, k, x, part);
                    }
                }
            }
        }
    }

    private static void promise27_ask() {
        for (int n = 0; n <= 41; n++) {
            for (int k = -1; k <= n + 1; k++) {
                for (int s = -1; s <= 101; s++) {
                    same(real().ask(n, k, s), MODEL.ask(n, k, s), "ask", n, k, s);
                }
            }
        }
    }

    private static void promise28_slips() {
        for (int all = 1; all <= 41; all++) {
            for (int n = -1; n <= all + 1; n++) {
                for (int w = -1; w <= n + 1; w++) {
                    for (int part = -1; part <= 2; part++) {
                        same(real().slips(all, n, w, part), MODEL.slips(all, n, w, part), "slips", all, n, w, part);
                    }
                }
            }
        }
    }

    private static void promise29_drawn() {
        int[] seeds = {-1, 0, 1, 2, 127773, 127774, 255547, 500000, 999999, 1000000, 1000001};
        for (int seed : seeds) {
            for (int all = 1; all <= 41; all++) {
                for (int n = 0; n <= 41; n++) {
                    same(real().drawn(seed, all, n), MODEL.drawn(seed, all, n), "drawn", seed, all, n);
                }
            }
        }
    }

    private static void promise30_sure() {
        for (int all = 1; all <= 41; all++) {
            for (int s = -1; s <= 101; s++) {
                same(real().sure(all, s), MODEL.sure(all, s), "sure", all, s);
            }
        }
    }

    /** Promise 32 goes along: the same SUMS. */
    private static void promise31_told() {
        for (int a = -1; a <= 9; a++) {
            for (int b = -1; b <= 9; b++) {
                for (int c = -1; c <= 9; c++) {
                    promise31_toldOf(a, b, c);
                }
            }
        }
    }

    private static void promise31_toldOf(int a, int b, int c) {
        for (int ka = -1; ka <= a + 1; ka++) {
            for (int kb = -1; kb <= b + 1; kb++) {
                for (int kc = -1; kc <= c + 1; kc++) {
                    for (int j = -1; j <= 3; j++) {
                        for (int part = -1; part <= 2; part++) {
                            same(real().told(a, b, c, ka, kb, kc, j, part), MODEL.told(a, b, c, ka, kb, kc, j, part),
                                "told", a, b, c, ka, kb, kc, j, part);
                        }
                    }
                    same(real().forced(a, b, c, ka, kb, kc), MODEL.forced(a, b, c, ka, kb, kc), "forced", a, b, c, ka, kb, kc);
                }
            }
        }
    }
}
