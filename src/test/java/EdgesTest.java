import java.io.IOException;
import java.lang.reflect.InvocationTargetException;
import java.lang.reflect.Method;
import java.util.Arrays;
import java.util.Comparator;
import java.util.Set;
import java.util.TreeSet;
import java.util.regex.Matcher;
import java.util.regex.Pattern;

/**
 * Runs a test of its own for each sentence of the document that names a boundary case. A test is a
 * static method that bears the sentence's words and takes a new object; its name begins with the
 * section ("whatItIs", "terms", "promise7", "notPromised") where the words stand.
 */
public final class EdgesTest {
    private static final Class<?>[] TESTS = {EdgesOfAll.class, EdgesOfTerms.class,
        EdgesOfNodes.class, EdgesOfStaying.class, EdgesOfMaking.class, EdgesOfSearch.class,
        EdgesOfNow.class};
    private static final Pattern SECTION =
            Pattern.compile("(whatItIs|terms|notPromised|promise\\d+)[A-Z].*");
    private static final int PROMISES = 26;

    private final Checks checks = new Checks("edges");
    private final Set<String> sections = new TreeSet<>();
    private final Document document;
    private int tests;

    private EdgesTest(Document document) {
        this.document = document;
    }

    public static void main(String[] args) throws IOException, IllegalAccessException {
        EdgesTest all = new EdgesTest(Document.read("edges"));
        for (Class<?> some : TESTS) {
            all.runAll(some);
        }
        all.end();
    }

    private void runAll(Class<?> some) throws IllegalAccessException {
        Method[] methods = some.getDeclaredMethods();
        Arrays.sort(methods, Comparator.comparing(Method::getName));
        for (Method method : methods) {
            Sentence sentence = method.getAnnotation(Sentence.class);
            if (sentence != null) {
                run(method, sentence.value());
            }
        }
    }

    private void run(Method method, String words) throws IllegalAccessException {
        String name = method.getName();
        Matcher section = SECTION.matcher(name);
        boolean isNamed = section.matches();
        checks.due(name + " begins with its section", isNamed, true);
        if (isNamed) {
            sections.add(section.group(1));
            checks.due(name + " bears words of its section", stands(words, section.group(1)), true);
        }
        tests++;
        int before = checks.made();
        try {
            method.invoke(null, new Run(name, checks));
        } catch (InvocationTargetException e) {
            checks.due(name + " threw " + e.getCause(), true, false);
        }
        checks.due(name + " asks for something", checks.made() > before, true);
    }

    private boolean stands(String words, String section) {
        return !document.isThere() || document.says(words, headingOf(section));
    }

    private static String headingOf(String section) {
        switch (section) {
            case "whatItIs":
                return "What it is\n";
            case "terms":
                return "Terms\n";
            case "notPromised":
                return "Not promised\n";
            default:
                return "Promise " + section.substring("promise".length()) + ":";
        }
    }

    private void end() {
        for (String section : new String[] {"whatItIs", "terms", "notPromised"}) {
            checks.due(section + " has tests", sections.contains(section), true);
        }
        for (int promise = 1; promise <= PROMISES; promise++) {
            boolean hasTest = sections.contains("promise" + promise);
            checks.due("promise " + promise + " has tests", hasTest, true);
        }
        System.out.println("edges: " + tests + " tests");
        checks.end();
    }
}
