import java.io.IOException;
import java.lang.reflect.InvocationTargetException;
import java.lang.reflect.Method;
import java.nio.file.Files;
import java.nio.file.Path;
import java.util.Arrays;
import java.util.Comparator;

/** Runs the tests that bear an Edge, each by itself; a name begins with the number of its promise. */
final class Edges {
    private static final Path DOCUMENT = Path.of("../shared/DOC.md");
    private static final String NAME = "promise[0-9][0-9]_[a-z][A-Za-z0-9]*";

    private Edges() {
    }

    /** All tests of one class, whatever promises they are of. */
    static void run(Class<?> tests) throws IOException {
        run(tests, 1, 0);
    }

    /** All tests of one class; each promise from the first to the last must have one. */
    static void run(Class<?> tests, int first, int last) throws IOException {
        Method[] methods = tests.getDeclaredMethods();
        Arrays.sort(methods, Comparator.comparing(Method::getName));
        String document = Files.exists(DOCUMENT) ? plain(Files.readString(DOCUMENT)) : "";
        boolean[] tested = new boolean[last + 1];
        Due all = new Due();
        int many = 0;
        for (Method test : methods) {
            Edge edge = test.getAnnotation(Edge.class);
            if (edge == null) {
                all.holds(test.getName() + " looks like a test, but bears no sentence", !test.getName().startsWith("promise"));
                continue;
            }
            boolean named = test.getName().matches(NAME);
            all.holds(test.getName() + " is named by its promise", named);
            int promise = named ? Integer.parseInt(test.getName().substring(7, 9)) : -1;
            if (promise >= first && promise <= last) {
                tested[promise] = true;
            }
            noteIfNotInDocument(test, edge.value(), document);
            all.add(test.getName() + ": ", ranAlone(test));
            many++;
        }
        for (int promise = first; promise <= last; promise++) {
            all.holds("promise " + promise + " has a test here", tested[promise]);
        }
        System.out.println(many + " tests that quote the document");
        all.end();
    }

    private static Due ranAlone(Method test) {
        Due due = new Due();
        try {
            test.setAccessible(true);
            test.invoke(null, due);
        } catch (InvocationTargetException e) {
            due.holds("threw " + e.getCause(), false);
        } catch (IllegalAccessException | IllegalArgumentException e) {
            due.holds("could not be run: " + e, false);
        }
        due.holds("holds nothing", due.held() > 0);
        return due;
    }

    /** A note alone: a document written anew asks for a reader, it does not make the class wrong. */
    private static void noteIfNotInDocument(Method test, String sentence, String document) {
        if (!document.contains(plain(sentence))) {
            System.out.println("note: " + test.getName() + " quotes what the document does not say: " + sentence);
        }
    }

    private static String plain(String text) {
        return text.replaceAll("\\s+", " ");
    }
}
