import java.lang.reflect.Constructor;
import java.lang.reflect.Field;
import java.lang.reflect.InvocationTargetException;
import java.lang.reflect.Method;
import java.lang.reflect.Modifier;
import java.nio.file.Files;
import java.nio.file.Path;
import java.util.Arrays;
import java.util.Set;
import java.util.TreeSet;
import java.util.regex.Matcher;
import java.util.regex.Pattern;

/** The face is the document's and no more; the source keeps to LANGUAGE.md where that can be seen; no call throws. */
public final class FaceTest {
    private static final String FACE = "key4 holder2 seal3 right2 open2 weight2 opened4 prove6 check6 voter3 say1 wipe0 fault0 "
        + "rule0 may1 close1 row4 attach5 cast7 ofRow2 find2 tally1 copy1 parted0 lies4 ask3 slips4 drawn3 sure2 told8 forced6 "
        + "count1";
    private static final Set<String> LONG = Set.of("lies", "slips", "told");
    private static final int[] EDGES = {Integer.MIN_VALUE, -1, 0, 1, 2, 30, 31, 40, 62, 5003, 10007, 1000000, Integer.MAX_VALUE};
    private static final Path SOURCE = Path.of("src/main/java/WallCount.java");
    private static final Path DOCUMENT = Path.of("../shared/DOC.md");
    private static final Due DUE = new Due();

    public static void main(String[] args) throws Exception {
        face();
        constants();
        String source = Files.readString(SOURCE);
        source(source);
        constructors(source);
        if (Files.exists(DOCUMENT)) {
            faceOfTheDocument(Files.readString(DOCUMENT), source);
        }
        neverThrows();
        DUE.end();
    }

    private static void face() {
        Class<WallCount> face = WallCount.class;
        DUE.holds("public and final", Modifier.isPublic(face.getModifiers()) && Modifier.isFinal(face.getModifiers()));
        Set<String> methods = new TreeSet<>();
        for (Method m : face.getDeclaredMethods()) {
            if (!Modifier.isPrivate(m.getModifiers())) {
                methods.add(m.getName() + m.getParameterCount());
                DUE.holds(m + " answers as told", m.getReturnType() == (LONG.contains(m.getName()) ? long.class : int.class));
                DUE.holds(m + " takes int alone", Arrays.stream(m.getParameterTypes()).allMatch(t -> t == int.class));
                DUE.holds(m + " is public, of the object", m.getModifiers() == Modifier.PUBLIC);
            }
        }
        DUE.holds("the methods " + methods, methods.equals(new TreeSet<>(Arrays.asList(FACE.split(" ")))));
        Constructor<?>[] constructors = face.getDeclaredConstructors();
        DUE.is("constructors", constructors.length, 1);
        DUE.holds("the constructor is public", Modifier.isPublic(constructors[0].getModifiers()));
        Set<String> names = new TreeSet<>();
        for (String name : FACE.split(" ")) {
            names.add(name.replaceAll("[0-9]", ""));
        }
        for (Class<?> inside : face.getDeclaredClasses()) {
            DUE.holds(inside + " is static", Modifier.isStatic(inside.getModifiers()));
            for (Method m : inside.getDeclaredMethods()) {
                DUE.holds(m + " bears no name of the face", !names.contains(m.getName()));
                DUE.holds(m + " takes at most seven", m.getParameterCount() <= 7);
            }
        }
        DUE.holds("at most twelve classes", face.getDeclaredClasses().length < 12);
    }

    private static void constants() throws Exception {
        DUE.all("constants", new long[] {WallCount.NONE, WallCount.UNKNOWN, WallCount.OUTSIDE, WallCount.STATE, WallCount.FULL,
            WallCount.NO, WallCount.LOST}, -6, -1, -2, -3, -4, -5, -1000000000000000000L);
        int open = 0;
        for (Field f : WallCount.class.getDeclaredFields()) {
            open += Modifier.isPrivate(f.getModifiers()) ? 0 : 1;
            DUE.holds(f + ": static ones are final", !Modifier.isStatic(f.getModifiers()) || Modifier.isFinal(f.getModifiers()));
        }
        DUE.is("constants that can be seen", open, 7);
    }

    /** Words of the source that LANGUAGE.md leaves out. */
    private static void source(String text) {
        String[] never = {"import ", "package ", "->", "::", "try", "catch", "finally", "synchronized", "assert ", "Exact(",
            "new Random", "System.", "Thread", "double", "float", "instanceof", "@", "static {", "hashCode", "toString", " + \""};
        for (String word : never) {
            String whole = word.matches("[a-z]+") ? "\\b" + word + "\\b" : Pattern.quote(word);
            DUE.holds("the source has no " + word, !Pattern.compile(whole).matcher(text).find());
        }
        DUE.holds("plain signs alone", text.chars().allMatch(c -> c == '\n' || c >= 32 && c < 127));
    }

    /** LANGUAGE.md rule 12: a constructor hands out nothing of its object, so it calls nothing with an argument. */
    private static void constructors(String text) {
        Matcher constructor = Pattern.compile("(?m)^( +)(?:public )?[A-Z]\\w*\\([^)]*\\) \\{\\n((?:.*\\n)*?)\\1\\}").matcher(text);
        int many = 0;
        while (constructor.find()) {
            many++;
            String body = constructor.group(2);
            DUE.holds("a constructor hands out nothing: " + body, !Pattern.compile("\\w\\([^)]|\\bthis\\b(?!\\.)").matcher(
                body.replaceAll("(?:for|if|while) \\(", "")).find());
        }
        DUE.holds("constructors were found", many >= 3);
    }

    /** Each line of the document's face stands in the source, in its order and under its heading. */
    private static void faceOfTheDocument(String document, String text) {
        String face = document.substring(document.indexOf("```java") + 7);
        face = face.substring(0, face.indexOf("```"));
        int at = 0;
        for (String line : face.split("\n")) {
            String due = line.replaceAll(";$", "").trim();
            int next = due.equals("}") ? at : text.indexOf(due, at);
            DUE.holds("the source has, in this order: " + due, next >= at);
            at = Math.max(at, next);
        }
        Matcher heading = Pattern.compile("Ahead of the calls `(\\w+)`(?:, `\\w+`)*, `(\\w+)` the interface says: (---- .*)\\.")
            .matcher(document);
        int many = 0;
        while (heading.find()) {
            many++;
            int said = text.indexOf("// " + heading.group(3) + "\n");
            int next = text.indexOf("// ----", said + 1);
            int first = placeOf(text, heading.group(1));
            DUE.holds(heading.group(3) + " stands ahead of its first call",
                said >= 0 && said < first && text.substring(said, first).indexOf("    public ") == -1);
            DUE.holds(heading.group(3) + " stands till its last call", placeOf(text, heading.group(2)) < next);
        }
        DUE.is("headings", many, 5);
    }

    private static int placeOf(String text, String method) {
        Matcher found = Pattern.compile("public (?:int|long) " + method + "\\(").matcher(text);
        return found.find() ? found.start() : -1;
    }

    /** Every call with edges of all kinds, on an empty object and on a full one. */
    private static void neverThrows() throws Exception {
        for (int turn = 0; turn < 2; turn++) {
            for (Method m : WallCount.class.getDeclaredMethods()) {
                if (Modifier.isPublic(m.getModifiers())) {
                    for (int seed = 0; seed < 2000; seed++) {
                        calledWithEdges(turn == 0 ? new WallCount() : fullOne(), m, seed);
                    }
                }
            }
        }
    }

    private static void calledWithEdges(WallCount x, Method m, int seed) throws Exception {
        Object[] arguments = new Object[m.getParameterCount()];
        long mixed = seed * 2654435761L + 12345;
        for (int i = 0; i < arguments.length; i++) {
            mixed = mixed * 6364136223846793005L + 1442695040888963407L;
            arguments[i] = EDGES[(int) Math.floorMod(mixed >> 33, (long) EDGES.length)];
        }
        try {
            m.invoke(x, arguments);
        } catch (InvocationTargetException e) {
            DUE.holds(m.getName() + Arrays.toString(arguments) + " threw " + e.getCause(), false);
        }
    }

    private static WallCount fullOne() {
        WallCount x = new WallCount();
        for (int i = 0; i < 41; i++) {
            x.say('a');
            x.copy(i);
            x.cast(i % 12, i % 2, i, i, i, i, i);
        }
        return x;
    }
}
