import java.lang.reflect.Method;
import java.lang.reflect.Modifier;
import java.nio.file.Files;
import java.nio.file.Path;
import java.util.ArrayList;
import java.util.List;
import java.util.Set;
import java.util.TreeSet;

/** README.md is right: each call of its examples answers what stands behind it, and every call of the face is told. */
public final class ReadmeTest {
    private static final String NEW = "WallCount x = new WallCount();";
    private static final Due DUE = new Due();

    /** One line of an example, read sign by sign. */
    private static final class Reader {
        private final WallCount x;
        private final String line;
        private int at = 0;

        Reader(WallCount x, String line) {
            this.x = x;
            this.line = line;
        }

        private String till(String ends) {
            int from = at;
            while (at < line.length() && ends.indexOf(line.charAt(at)) < 0) {
                at++;
            }
            return line.substring(from, at).trim();
        }

        /** A number, a sign in quotes, or a call with values in its brackets. */
        long value() throws Exception {
            String word = till(",()");
            if (at >= line.length() || line.charAt(at) != '(') {
                return word.startsWith("'") ? word.charAt(1) : Long.parseLong(word);
            }
            List<Object> arguments = new ArrayList<>();
            at++;
            while (line.charAt(at) != ')') {
                arguments.add((int) value());
                at += line.charAt(at) == ',' ? 1 : 0;
            }
            at++;
            return call(word, arguments);
        }

        private long call(String word, List<Object> arguments) throws Exception {
            for (Method m : WallCount.class.getDeclaredMethods()) {
                if (("x." + m.getName()).equals(word) && m.getParameterCount() == arguments.size()) {
                    return ((Number) m.invoke(x, arguments.toArray())).longValue();
                }
            }
            throw new IllegalArgumentException("no such call: " + word);
        }
    }

    public static void main(String[] args) throws Exception {
        String page = Files.readString(Path.of("README.md"));
        Set<String> called = examples(page);
        Set<String> face = new TreeSet<>();
        for (Method m : WallCount.class.getDeclaredMethods()) {
            if (Modifier.isPublic(m.getModifiers())) {
                face.add(m.getName());
                DUE.holds("the page tells what " + m.getName() + " takes", page.contains("`" + m.getName() + "("));
            }
        }
        face.removeAll(called);
        DUE.holds("no call is without an example: " + face, face.isEmpty());
        DUE.end();
    }

    /** Runs the examples, and tells which calls were in them. */
    private static Set<String> examples(String page) throws Exception {
        Set<String> called = new TreeSet<>();
        WallCount x = null;
        boolean inside = false;
        for (String line : page.split("\n")) {
            if (line.startsWith("```")) {
                inside = line.equals("```java");
            } else if (inside && line.equals(NEW)) {
                x = new WallCount();
            } else if (inside) {
                String[] sides = line.split(";\\s*// ", 2);
                DUE.is(line + " has an answer", sides.length, 2);
                DUE.is(line, new Reader(x, sides[0]).value(), answer(sides[1]));
                for (String word : sides[0].split("[^A-Za-z.]+")) {
                    called.add(word.replace("x.", ""));
                }
            }
        }
        return called;
    }

    /** What stands behind a call: a number or a constant, or two of them with a + between. */
    private static long answer(String said) throws Exception {
        long sum = 0;
        for (String one : said.split(":")[0].split("\\+")) {
            String word = one.trim();
            sum += word.matches("-?[0-9]+") ? Long.parseLong(word) : WallCount.class.getField(word).getLong(null);
        }
        return sum;
    }
}
