import java.io.IOException;
import java.lang.reflect.InvocationTargetException;
import java.lang.reflect.Method;
import java.lang.reflect.Modifier;
import java.nio.file.Files;
import java.nio.file.Path;
import java.util.Set;
import java.util.TreeSet;
import java.util.regex.Matcher;
import java.util.regex.Pattern;
import java.util.stream.Stream;

/** The run of calls in README.md answers what README.md says, and its list of tests is whole. */
public final class ReadmeTest {
    private static final Path README = Path.of("README.md");
    private static final Path TESTS = Path.of("src", "test", "java");
    private static final Pattern CALL =
            Pattern.compile("(?m)^story\\.(\\w+)\\((.*?)\\); +// ([^:\n]+)(?:: .*)?$");
    private static final Pattern LISTED = Pattern.compile("(?m)^- `(\\w+Test)`: ");

    private final Checks checks = new Checks("readme");
    private final PlaySearch story = new PlaySearch();
    private final Set<String> called = new TreeSet<>();
    private int calls;

    public static void main(String[] args) throws IOException, IllegalAccessException {
        ReadmeTest test = new ReadmeTest();
        String readme = Files.readString(README);
        test.runCalls(readme);
        test.allTestsAreListed(readme);
        test.checks.end();
    }

    private void runCalls(String readme) throws IllegalAccessException {
        Matcher call = CALL.matcher(readme);
        while (call.find()) {
            String name = call.group(1);
            calls++;
            called.add(name);
            checks.due("call " + calls + ", " + name + "(" + call.group(2) + ")",
                    answer(name, call.group(2)), call.group(3));
        }
        long lines = readme.lines().filter(line -> line.startsWith("story.")).count();
        checks.due("lines of calls that were read", calls, lines);
        checks.due("calls within the 512 of one object", calls > 0 && calls <= 512, true);
        for (Method method : PlaySearch.class.getDeclaredMethods()) {
            boolean isHidden = !Modifier.isPublic(method.getModifiers());
            String name = method.getName();
            checks.due("README.md calls " + name, isHidden || called.contains(name), true);
        }
    }

    private String answer(String name, String arguments) throws IllegalAccessException {
        for (Method method : PlaySearch.class.getMethods()) {
            if (method.getName().equals(name)) {
                return answer(method, values(arguments));
            }
        }
        return "no such call";
    }

    private String answer(Method method, Object[] values) throws IllegalAccessException {
        try {
            Object got = method.invoke(story, values);
            return got == null ? "nothing" : got.toString();
        } catch (InvocationTargetException e) {
            return "throws " + e.getCause().getClass().getSimpleName();
        }
    }

    private static Object[] values(String arguments) {
        return Stream.of(arguments.split(", ")).filter(text -> !text.isEmpty())
                .map(ReadmeTest::value).toArray();
    }

    private static Object value(String text) {
        if (text.equals("true") || text.equals("false")) {
            return Boolean.valueOf(text);
        }
        return Integer.valueOf(text);
    }

    private void allTestsAreListed(String readme) throws IOException {
        Set<String> listed = new TreeSet<>();
        Matcher test = LISTED.matcher(readme);
        while (test.find()) {
            listed.add(test.group(1));
        }
        Set<String> there = new TreeSet<>();
        try (Stream<Path> files = Files.list(TESTS)) {
            files.map(file -> file.getFileName().toString())
                    .filter(name -> name.endsWith("Test.java"))
                    .forEach(name -> there.add(name.substring(0, name.length() - 5)));
        }
        checks.due("the list of tests", listed.toString(), there.toString());
    }
}
