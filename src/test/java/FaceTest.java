import java.lang.reflect.Constructor;
import java.lang.reflect.Field;
import java.lang.reflect.Method;
import java.lang.reflect.Modifier;
import java.util.Set;
import java.util.TreeSet;

/** The class has the document's face, and shows nothing else. */
public final class FaceTest {
    private static final Set<String> FACE = Set.of(
        "public static final int BlameDesk.NONE",
        "public BlameDesk()",
        "public boolean BlameDesk.write(long)",
        "public int BlameDesk.check()",
        "public int BlameDesk.position()",
        "public int BlameDesk.type(int)",
        "public int BlameDesk.run(int)",
        "public int BlameDesk.result(int)",
        "public int BlameDesk.blamed()",
        "public int BlameDesk.output(int)",
        "public int BlameDesk.calls()",
        "public int BlameDesk.stored()");

    public static void main(String[] args) {
        Set<String> seen = new TreeSet<>();
        for (Field field : BlameDesk.class.getDeclaredFields()) {
            addIfSeen(seen, field.getModifiers(), field.toString());
        }
        for (Constructor<?> constructor : BlameDesk.class.getDeclaredConstructors()) {
            addIfSeen(seen, constructor.getModifiers(), constructor.toString());
        }
        for (Method method : BlameDesk.class.getDeclaredMethods()) {
            addIfSeen(seen, method.getModifiers(), method.toString());
        }
        Due due = new Due();
        due.is("the class is public and final", BlameDesk.class.getModifiers(), Modifier.PUBLIC | Modifier.FINAL);
        due.is("the face, seen is " + seen, seen.equals(FACE), true);
        due.end();
    }

    private static void addIfSeen(Set<String> seen, int modifiers, String member) {
        if (!Modifier.isPrivate(modifiers)) {
            seen.add(member);
        }
    }
}
