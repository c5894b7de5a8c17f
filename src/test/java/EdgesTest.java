import java.io.IOException;
import java.lang.reflect.InvocationTargetException;
import java.lang.reflect.Method;
import java.nio.file.Files;
import java.nio.file.Path;
import java.util.Arrays;
import java.util.Comparator;
import java.util.Set;
import java.util.TreeSet;
import java.util.regex.Matcher;
import java.util.regex.Pattern;

/**
 * Runs a test of its own for each sentence of the document that names a boundary case. A test is a
 * static method that bears the sentence's words and takes a new object; its name begins with the
 * section ("terms", "promise7", "notPromised") where the words stand.
 */
public final class EdgesTest {
    private static final Class<?>[] TESTS = {EdgesOfTerms.class, EdgesOfNodes.class,
        EdgesOfStaying.class, EdgesOfMaking.class, EdgesOfSearch.class, EdgesOfNow.class};
    private static final Pattern SECTION =
            Pattern.compile("(terms|notPromised|promise\\d+)[A-Z].*");
    private static final Path DOCUMENT = Path.of("..", "shared", "DOC.md");
    private static final int PROMISES = 26;

    private final Checks checks = new Checks("edges");
    private final Set<String> sections = new TreeSet<>();
    private final String document;
    private int tests;

    private EdgesTest(String document) {
        this.document = document;
    }

    public static void main(String[] args) throws IOException, IllegalAccessException {
        boolean isThere = Files.exists(DOCUMENT);
        if (!isThere) {
            System.out.println("edges: no " + DOCUMENT + ", so the words are not looked up in it");
        }
        EdgesTest all = new EdgesTest(isThere ? Files.readString(DOCUMENT) : null);
        for (Class<?> some : TESTS) {
            all.runAll(some);
        }
        all.end();
    }

    private void runAll(Class<?> some) throws IllegalAccessException {
        Method[] methods = some.getDeclaredMethods();
        Arrays.sort(methods, Comparator.comparing(Method::getName));
        for (Method method : methods) {
            Sentence sentence = method.getAnnotation(Sentence.class);
            if (sentence != null) {
                run(method, sentence.value());
            }
        }
    }

    private void run(Method method, String words) throws IllegalAccessException {
        String name = method.getName();
        Matcher section = SECTION.matcher(name);
        boolean isNamed = section.matches();
        checks.due(name + " begins with its section", isNamed, true);
        if (isNamed) {
            sections.add(section.group(1));
            checks.due(name + " bears words of its section", stands(words, section.group(1)), true);
        }
        tests++;
        int before = checks.made();
        try {
            method.invoke(null, new Run(name, checks));
        } catch (InvocationTargetException e) {
            checks.due(name + " threw " + e.getCause(), true, false);
        }
        checks.due(name + " asks for something", checks.made() > before, true);
    }

    private boolean stands(String words, String section) {
        return document == null || oneLine(textOf(section)).contains(oneLine(words));
    }

    /** The document from a section's heading to the next one. */
    private String textOf(String section) {
        String heading = section.equals("terms") ? "## Terms\n"
                : section.equals("notPromised") ? "## Not promised\n"
                : "## Promise " + section.substring("promise".length()) + ":";
        int start = document.indexOf(heading);
        int end = document.indexOf("\n## ", start + 1);
        return start < 0 ? "" : document.substring(start, end < 0 ? document.length() : end);
    }

    private static String oneLine(String text) {
        return text.replaceAll("\\s+", " ");
    }

    private void end() {
        checks.due("the terms have tests", sections.contains("terms"), true);
        for (int promise = 1; promise <= PROMISES; promise++) {
            boolean hasTest = sections.contains("promise" + promise);
            checks.due("promise " + promise + " has tests", hasTest, true);
        }
        System.out.println("edges: " + tests + " tests");
        checks.end();
    }
}
