import java.lang.reflect.Constructor;
import java.lang.reflect.Field;
import java.lang.reflect.Method;
import java.lang.reflect.Modifier;
import java.util.TreeSet;

/** The class has the document's public face and nothing else that is visible. */
public final class FaceTest {
    private static final String[] FACE = {
        "public boolean PlaySearch.ends(int,int)",
        "public boolean PlaySearch.seen(int)",
        "public boolean PlaySearch.shortest()",
        "public boolean PlaySearch.show(int,int)",
        "public boolean PlaySearch.then(int,int,int,int)",
        "public boolean PlaySearch.weigh(int,int)",
        "public boolean PlaySearch.when(int,int,int,int)",
        "public int PlaySearch.at(int)",
        "public int PlaySearch.cell(int,boolean)",
        "public int PlaySearch.clear()",
        "public int PlaySearch.goal(int,int,int)",
        "public int PlaySearch.length()",
        "public int PlaySearch.macro()",
        "public int PlaySearch.meet(int,int)",
        "public int PlaySearch.move()",
        "public int PlaySearch.never(int)",
        "public int PlaySearch.node(int,int)",
        "public int PlaySearch.now(int)",
        "public int PlaySearch.of(int)",
        "public int PlaySearch.queue(int) throws java.lang.ArrayIndexOutOfBoundsException",
        "public int PlaySearch.replays()",
        "public int PlaySearch.search(int,int)",
        "public int PlaySearch.step(int)",
        "public int PlaySearch.told(int)",
        "public void PlaySearch.begin()",
        "public PlaySearch()",
        "public static final int PlaySearch.NONE",
    };

    public static void main(String[] args) {
        Checks checks = new Checks("face");
        TreeSet<String> visible = new TreeSet<>();
        TreeSet<String> publicNames = new TreeSet<>();
        for (Method method : PlaySearch.class.getDeclaredMethods()) {
            if (!Modifier.isPrivate(method.getModifiers())) {
                visible.add(method.toGenericString());
                publicNames.add(method.getName());
            }
        }
        for (Field field : PlaySearch.class.getDeclaredFields()) {
            if (!Modifier.isPrivate(field.getModifiers())) {
                visible.add(field.toGenericString());
            }
        }
        for (Constructor<?> made : PlaySearch.class.getDeclaredConstructors()) {
            visible.add(made.toGenericString());
        }
        for (String member : FACE) {
            checks.due("has " + member, visible.remove(member), true);
        }
        for (String member : visible) {
            checks.due("shows besides " + member, true, false);
        }
        for (Method method : PlaySearch.class.getDeclaredMethods()) {
            boolean isHidden = Modifier.isPrivate(method.getModifiers());
            boolean isShared = isHidden && publicNames.contains(method.getName());
            checks.due("private and public " + method.getName(), isShared, false);
        }
        int modifiers = PlaySearch.class.getModifiers();
        checks.due("public", Modifier.isPublic(modifiers), true);
        checks.due("final", Modifier.isFinal(modifiers), true);
        checks.due("NONE", PlaySearch.NONE, -1);
        checks.end();
    }
}
