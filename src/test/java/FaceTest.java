import java.io.IOException;
import java.lang.reflect.Constructor;
import java.lang.reflect.Field;
import java.lang.reflect.Method;
import java.lang.reflect.Modifier;
import java.util.Arrays;
import java.util.TreeSet;
import java.util.regex.Matcher;
import java.util.regex.Pattern;

/** The class has the document's public face and nothing else that is visible. */
public final class FaceTest {
    private static final String[] FACE = {
        "public boolean PlaySearch.ends(int,int)",
        "public boolean PlaySearch.seen(int)",
        "public boolean PlaySearch.shortest()",
        "public boolean PlaySearch.show(int,int)",
        "public boolean PlaySearch.then(int,int,int,int)",
        "public boolean PlaySearch.weigh(int,int)",
        "public boolean PlaySearch.when(int,int,int,int)",
        "public int PlaySearch.at(int)",
        "public int PlaySearch.cell(int,boolean)",
        "public int PlaySearch.clear()",
        "public int PlaySearch.goal(int,int,int)",
        "public int PlaySearch.length()",
        "public int PlaySearch.macro()",
        "public int PlaySearch.meet(int,int)",
        "public int PlaySearch.move()",
        "public int PlaySearch.never(int)",
        "public int PlaySearch.node(int,int)",
        "public int PlaySearch.now(int)",
        "public int PlaySearch.of(int)",
        "public int PlaySearch.queue(int) throws java.lang.ArrayIndexOutOfBoundsException",
        "public int PlaySearch.replays()",
        "public int PlaySearch.search(int,int)",
        "public int PlaySearch.step(int)",
        "public int PlaySearch.told(int)",
        "public void PlaySearch.begin()",
        "public PlaySearch()",
        "public static final int PlaySearch.NONE",
    };

    /** A constructor or method of the document's face: its answer, name, parameters, exception. */
    private static final Pattern CALL =
            Pattern.compile("public (?:(\\w+) )?(\\w+)\\((.*)\\)(?: throws (\\w+))?;");

    private final Checks checks = new Checks("face");

    public static void main(String[] args) throws IOException {
        FaceTest test = new FaceTest();
        test.faceIsTheDocuments(Document.read("face"));
        test.faceIsAllThatIsVisible();
        test.namesAreNotShared();
        test.classIsPublicAndFinal();
        test.checks.end();
    }

    /** FACE is held against the document, so that it can stand in for it in the other tests. */
    private void faceIsTheDocuments(Document document) {
        if (!document.isThere()) {
            return;
        }
        TreeSet<String> due = new TreeSet<>();
        for (String line : document.section("The public face").split("\n")) {
            Matcher call = CALL.matcher(line.trim());
            if (call.matches()) {
                due.add(asReflected(call));
            }
        }
        if (document.says("public static final int NONE = -1;", "The public face")) {
            due.add("public static final int PlaySearch.NONE");
        }
        checks.due("the document's face has", due.size(), FACE.length);
        checks.due("the document's face is FACE", due.containsAll(Arrays.asList(FACE)), true);
    }

    private static String asReflected(Matcher call) {
        String answer = call.group(1) == null ? "" : call.group(1) + " PlaySearch.";
        String types = call.group(3).replaceAll("(\\w+) \\w+", "$1").replace(", ", ",");
        String thrown = call.group(4) == null ? "" : " throws java.lang." + call.group(4);
        return "public " + answer + call.group(2) + "(" + types + ")" + thrown;
    }

    private void faceIsAllThatIsVisible() {
        TreeSet<String> visible = new TreeSet<>();
        for (Method method : PlaySearch.class.getDeclaredMethods()) {
            if (!Modifier.isPrivate(method.getModifiers())) {
                visible.add(method.toGenericString());
            }
        }
        for (Field field : PlaySearch.class.getDeclaredFields()) {
            if (!Modifier.isPrivate(field.getModifiers())) {
                visible.add(field.toGenericString());
            }
        }
        for (Constructor<?> made : PlaySearch.class.getDeclaredConstructors()) {
            visible.add(made.toGenericString());
        }
        for (String member : FACE) {
            checks.due("has " + member, visible.remove(member), true);
        }
        for (String member : visible) {
            checks.due("shows besides " + member, true, false);
        }
    }

    private void namesAreNotShared() {
        TreeSet<String> publicNames = new TreeSet<>();
        for (Method method : PlaySearch.class.getMethods()) {
            publicNames.add(method.getName());
        }
        for (Method method : PlaySearch.class.getDeclaredMethods()) {
            boolean isHidden = Modifier.isPrivate(method.getModifiers());
            boolean isShared = isHidden && publicNames.contains(method.getName());
            checks.due("private and public " + method.getName(), isShared, false);
        }
    }

    private void classIsPublicAndFinal() {
        int modifiers = PlaySearch.class.getModifiers();
        checks.due("public", Modifier.isPublic(modifiers), true);
        checks.due("final", Modifier.isFinal(modifiers), true);
        checks.due("NONE", PlaySearch.NONE, -1);
    }
}
