import java.lang.reflect.InvocationTargetException;
import java.lang.reflect.Method;
import java.util.Arrays;
import java.util.Random;

/** Long runs of mixed calls, right and wrong ones, on the class and on the model: all answers alike. */
public final class ModelTest {
    private static final int RUNS = 1500;
    /** Nothing is promised of an object after as many calls. */
    private static final int CALLS_OF_ONE = 512;
    private static final int[] WILD = {Integer.MIN_VALUE, Integer.MIN_VALUE + 1, -1000001, -65536, -1, 0, 1, 62, 64,
        5002, 5003, 9972, 9973, 10006, 10007, 65536, 999999, 1000000, 1000001, Integer.MAX_VALUE - 1, Integer.MAX_VALUE};

    /** A letter an argument: what it is drawn from, see argument(). */
    private static final String[][] CALLS = {
        {"key", "Neee"}, {"holder", "ht"}, {"seal", "eet"}, {"right", "rr"}, {"open", "hr"}, {"weight", "hS"},
        {"opened", "rrSt"}, {"prove", "teeeeF"}, {"check", "rreeee"},
        {"voter", "VTg"}, {"say", "s"}, {"wipe", ""}, {"fault", ""}, {"rule", ""}, {"may", "V"}, {"close", "H"},
        {"row", "VrrH"}, {"attach", "Reeee"}, {"cast", "VtHeeee"}, {"ofRow", "RO"}, {"find", "WR"}, {"tally", "T"},
        {"copy", "W"}, {"parted", ""}, {"lies", "nnnt"}, {"ask", "nnp"}, {"slips", "nnnt"}, {"drawn", "Dnn"},
        {"sure", "np"}, {"told", "bbbkkkTt"}, {"forced", "bbbkkk"}, {"count", "C"},
    };

    private final Random random;
    private final Due due = new Due();
    private WallCount real;
    private Model model;
    private String run;
    private int calls;

    private ModelTest(long seed) {
        random = new Random(seed);
    }

    public static void main(String[] args) throws Exception {
        ModelTest test = new ModelTest(20261118L);
        for (int i = 0; i < RUNS && test.due.wrong() < 20; i++) {
            test.oneRun(i);
        }
        test.due.end();
    }

    private void oneRun(int number) throws Exception {
        real = new WallCount();
        model = new Model();
        run = "run " + number + ": ";
        calls = 0;
        int wild = random.nextInt(4) == 0 ? 20 : 2;
        int heavy = random.nextInt(4);
        for (int i = 0; i < CALLS_OF_ONE && calls < CALLS_OF_ONE - 80 && due.wrong() < 20; i++) {
            int kind = random.nextInt(12);
            if (kind == 0 && heavy != 0) {
                votedRight();
            } else if (kind == 1 && heavy != 1) {
                textSaid();
            } else if (kind == 2) {
                wordCopied();
            } else if (kind == 3) {
                proofChecked();
            } else {
                String[] call = CALLS[random.nextInt(CALLS.length)];
                if (call[0].equals("key") && random.nextInt(3) != 0) {
                    continue;
                }
                called(call[0], arguments(call[1], wild));
            }
        }
    }

    /** A ROW told by hand, whose proof is right, or wrong in one number. */
    private void votedRight() throws Exception {
        int m = random.nextInt(2);
        int[] lots = {random.nextInt(5003), random.nextInt(5003), random.nextInt(5003), random.nextInt(5003)};
        long a = called("seal", m, lots[0], 0);
        long b = called("seal", m, lots[0], 1);
        long row = called("row", random.nextInt(12), (int) a, (int) b, random.nextInt(120));
        int[] proof = new int[4];
        for (int i = 0; i < 4; i++) {
            proof[i] = (int) called("prove", m, lots[0], lots[1], lots[2], lots[3], i);
        }
        if (random.nextInt(4) == 0) {
            proof[random.nextInt(4)] += random.nextInt(3) - 1;
        }
        if (row >= 0) {
            called("attach", (int) row, proof[0], proof[1], proof[2], proof[3]);
            called("ofRow", (int) row, 4);
        }
        called("opened", (int) a, (int) b, 2 * random.nextInt(32), random.nextInt(2));
    }

    private void proofChecked() throws Exception {
        int m = random.nextInt(2);
        int[] lots = {random.nextInt(5003), random.nextInt(5003), random.nextInt(5003), random.nextInt(5003)};
        int[] p = new int[6];
        p[0] = (int) called("seal", m, lots[0], 0);
        p[1] = (int) called("seal", m, lots[0], 1);
        for (int i = 0; i < 4; i++) {
            p[2 + i] = (int) called("prove", m, lots[0], lots[1], lots[2], lots[3], i);
        }
        due.is(run + "a proof that was made", called("check", p[0], p[1], p[2], p[3], p[4], p[5]), 1);
        p[random.nextInt(6)] += random.nextInt(3) - 1;
        called("check", p[0], p[1], p[2], p[3], p[4], p[5]);
    }

    /** A text that is right, or nearly so. */
    private void textSaid() throws Exception {
        called("wipe");
        StringBuilder text = new StringBuilder();
        int tests = 1 + random.nextInt(random.nextInt(3) == 0 ? 11 : 4);
        for (int i = 0; i < tests; i++) {
            text.append(i == 0 ? "" : random.nextBoolean() ? "&" : "|");
            text.append("ayb".charAt(random.nextInt(3))).append("<>=".charAt(random.nextInt(3)));
            text.append(random.nextInt(3) == 0 ? random.nextInt(2) : random.nextInt(random.nextBoolean() ? 40 : 1000));
        }
        if (random.nextInt(3) == 0) {
            text.setCharAt(random.nextInt(text.length()), "ayb<>=&|0190zA !~".charAt(random.nextInt(17)));
        }
        if (random.nextInt(4) == 0) {
            text.setLength(random.nextInt(text.length()));
        }
        for (int i = 0; i < text.length(); i++) {
            called("say", text.charAt(i));
        }
        called("fault");
        called("rule");
        for (int voter = 0; voter < 12; voter++) {
            called("may", voter);
        }
    }

    private void wordCopied() throws Exception {
        long many = called("count", 5);
        long word = called("ofRow", (int) many, 5);
        if (word >= 0 && random.nextInt(6) != 0) {
            called("copy", (int) word);
        }
        called("find", (int) word, random.nextInt(3));
        called("parted");
    }

    private Object[] arguments(String kinds, int wild) {
        Object[] arguments = new Object[kinds.length()];
        for (int i = 0; i < arguments.length; i++) {
            boolean isWild = random.nextInt(100) < wild;
            arguments[i] = isWild ? WILD[random.nextInt(WILD.length)] : argument(kinds.charAt(i));
        }
        return arguments;
    }

    private int argument(char kind) {
        switch (kind) {
            case 'N': return random.nextInt(5);
            case 'e': return random.nextInt(10) == 0 ? 5000 + random.nextInt(4) : random.nextInt(5003);
            case 'h': return random.nextInt(7);
            case 't': return random.nextInt(2);
            case 'r': return random.nextInt(3) == 0 ? random.nextInt(10009) : (1 << random.nextInt(7) * 2);
            case 'S': return random.nextInt(5) == 0 ? random.nextInt(70) : 2 * random.nextInt(32);
            case 'F': return random.nextInt(4);
            case 'V': return random.nextInt(13);
            case 'T': return random.nextInt(3);
            case 'g': return random.nextInt(3) == 0 ? random.nextInt(2) : random.nextInt(122);
            case 's': return 32 + random.nextInt(96);
            case 'H': return random.nextInt(5) == 0 ? random.nextInt(1001) : 90 + random.nextInt(20);
            case 'R': return random.nextInt(32);
            case 'O': return random.nextInt(8);
            case 'W': return random.nextInt(9973);
            case 'n': return random.nextInt(random.nextBoolean() ? 42 : 8);
            case 'p': return random.nextInt(102);
            case 'D': return 1 + random.nextInt(1000000);
            case 'b': return random.nextInt(5);
            case 'k': return random.nextInt(3);
            default: return random.nextInt(16);
        }
    }

    private long called(String name, Object... arguments) throws Exception {
        Object[] numbers = new Object[arguments.length];
        for (int i = 0; i < numbers.length; i++) {
            numbers[i] = arguments[i] instanceof Character ? (int) (Character) arguments[i] : arguments[i];
        }
        calls++;
        long got = answer(WallCount.class, real, name, numbers);
        due.is(run + name + Arrays.toString(numbers), got, answer(Model.class, model, name, numbers));
        return got;
    }

    private static long answer(Class<?> kind, Object object, String name, Object[] arguments) throws Exception {
        Class<?>[] types = new Class<?>[arguments.length];
        Arrays.fill(types, int.class);
        Method method = kind.getDeclaredMethod(name, types);
        try {
            return ((Number) method.invoke(object, arguments)).longValue();
        } catch (InvocationTargetException e) {
            throw new IllegalStateException(name + Arrays.toString(arguments) + " threw", e.getCause());
        }
    }
}
