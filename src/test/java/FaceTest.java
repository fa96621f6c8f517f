import java.lang.reflect.Constructor;
import java.lang.reflect.Executable;
import java.lang.reflect.Field;
import java.lang.reflect.Method;
import java.lang.reflect.Modifier;
import java.util.Arrays;
import java.util.Set;
import java.util.TreeSet;

/** The class shows the members of the document's face, and no others. */
public final class FaceTest {
    private static final Set<String> FACE = new TreeSet<>(Arrays.asList(
            "public static final int TargetRows.NONE",
            "public TargetRows(int,int,int)",
            "public int TargetRows.ask(int)",
            "public int TargetRows.next(int) throws java.lang.UnsupportedOperationException",
            "public int TargetRows.check(int,boolean,int) throws "
                    + "java.lang.IllegalArgumentException,java.lang.IllegalStateException",
            "public int TargetRows.flush()",
            "public int TargetRows.entry(int,int,int) throws java.lang.IndexOutOfBoundsException",
            "public int TargetRows.row(int,int) throws java.lang.IndexOutOfBoundsException",
            "public int TargetRows.ring(int) throws java.lang.IndexOutOfBoundsException",
            "public int TargetRows.queued(int,int) throws java.lang.IndexOutOfBoundsException",
            "public int TargetRows.storage()",
            "public int TargetRows.count(int)"));

    public static void main(String[] args) {
        Set<String> seen = new TreeSet<>();
        for (Field f : TargetRows.class.getDeclaredFields()) {
            addIfSeen(seen, f.getModifiers(), f.toString());
        }
        for (Constructor<?> c : TargetRows.class.getDeclaredConstructors()) {
            addIfSeen(seen, c.getModifiers(), c.toString());
        }
        for (Method m : TargetRows.class.getDeclaredMethods()) {
            addIfSeen(seen, m.getModifiers(), m.toString());
            noPrivateTwin(m);
        }
        if (!seen.equals(FACE)) {
            Due.complain("the face is " + seen + ", due is " + FACE);
        }
        Due.same("class is public and final",
                TargetRows.class.getModifiers(), Modifier.PUBLIC | Modifier.FINAL);
        Due.same("NONE", TargetRows.NONE, -1);
        for (Class<?> inside : TargetRows.class.getDeclaredClasses()) {
            insideIsHidden(inside);
        }
        Due.end("FaceTest");
    }

    private static void addIfSeen(Set<String> seen, int modifiers, String text) {
        if (!Modifier.isPrivate(modifiers)) {
            seen.add(text);
        }
    }

    private static void noPrivateTwin(Executable method) {
        for (Method other : TargetRows.class.getDeclaredMethods()) {
            boolean twin = Modifier.isPrivate(method.getModifiers())
                    && Modifier.isPublic(other.getModifiers())
                    && method.getName().equals(other.getName());
            Due.same("private twin of " + other.getName(), twin ? 1 : 0, 0);
        }
    }

    private static void insideIsHidden(Class<?> inside) {
        int modifiers = inside.getModifiers();
        Due.same(inside.getName() + " is static", Modifier.isStatic(modifiers) ? 1 : 0, 1);
        Due.same(inside.getName() + " is not public or protected",
                modifiers & (Modifier.PUBLIC | Modifier.PROTECTED), 0);
    }
}
