import java.lang.reflect.Constructor;
import java.lang.reflect.Field;
import java.lang.reflect.Method;
import java.lang.reflect.Modifier;
import java.util.ArrayList;
import java.util.Collections;
import java.util.List;

/** The class has the document's face and no other visible member. */
public final class FaceTest {
    private static final String[] FACE = {
        "public ShareRuns(int)",
        "public boolean ShareRuns.value(int,int,long,boolean)"
            + " throws java.lang.IndexOutOfBoundsException,java.lang.IllegalArgumentException",
        "public boolean ShareRuns.faults(int,int)"
            + " throws java.lang.IndexOutOfBoundsException,java.lang.IllegalArgumentException",
        "public int ShareRuns.run(int,long,int) throws java.lang.IllegalArgumentException",
        "public long ShareRuns.answer() throws java.lang.IllegalStateException",
        "public int ShareRuns.ticks(int) throws java.lang.IllegalStateException",
        "public int ShareRuns.worked(int)"
            + " throws java.lang.IllegalStateException,java.lang.IndexOutOfBoundsException",
        "public int ShareRuns.done(int)"
            + " throws java.lang.IllegalStateException,java.lang.IndexOutOfBoundsException",
        "public int ShareRuns.by(int)"
            + " throws java.lang.IllegalStateException,java.lang.IndexOutOfBoundsException",
        "public int ShareRuns.failed(int)"
            + " throws java.lang.IllegalStateException,java.lang.IndexOutOfBoundsException",
        "public int ShareRuns.at(int)"
            + " throws java.lang.IllegalStateException,java.lang.IndexOutOfBoundsException",
        "public int ShareRuns.count()",
    };

    public static void main(String[] args) {
        Checks checks = new Checks();
        checks.due("visible members", String.join("\n", visibleMembers()), String.join("\n", face()));
        int modifiers = ShareRuns.class.getModifiers();
        checks.due("public", Modifier.isPublic(modifiers), true);
        checks.due("final", Modifier.isFinal(modifiers), true);
        for (Class<?> inside : ShareRuns.class.getDeclaredClasses()) {
            checks.due(inside + " is public or protected",
                    Modifier.isPublic(inside.getModifiers()) || Modifier.isProtected(inside.getModifiers()),
                    false);
            checks.due(inside + " is static", Modifier.isStatic(inside.getModifiers()), true);
        }
        checks.end("FaceTest");
    }

    private static List<String> face() {
        List<String> face = new ArrayList<>(List.of(FACE));
        Collections.sort(face);
        return face;
    }

    private static List<String> visibleMembers() {
        List<String> found = new ArrayList<>();
        for (Constructor<?> each : ShareRuns.class.getDeclaredConstructors()) {
            addIfVisible(found, each.getModifiers(), each.toString());
        }
        for (Method each : ShareRuns.class.getDeclaredMethods()) {
            addIfVisible(found, each.getModifiers(), each.toString());
        }
        for (Field each : ShareRuns.class.getDeclaredFields()) {
            addIfVisible(found, each.getModifiers(), each.toString());
        }
        Collections.sort(found);
        return found;
    }

    private static void addIfVisible(List<String> found, int modifiers, String member) {
        if (!Modifier.isPrivate(modifiers)) {
            found.add(member);
        }
    }
}
