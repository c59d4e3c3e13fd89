import java.lang.reflect.Constructor;
import java.lang.reflect.Field;
import java.lang.reflect.Method;
import java.lang.reflect.Modifier;
import java.util.Arrays;
import java.util.TreeSet;

/** The class shows the document's face and nothing else. */
public final class FaceTest {
    private static final String[] FACE = {
        "public NoteMix()",
        "public void NoteMix.load(int,int,int) throws java.lang.IllegalArgumentException",
        "public int NoteMix.best(int) throws java.lang.IllegalArgumentException,java.util.NoSuchElementException",
        "public int NoteMix.part(int,int) throws java.lang.IllegalArgumentException,java.util.NoSuchElementException",
        "public int NoteMix.ways(int) throws java.lang.IllegalArgumentException",
        "public int NoteMix.pay(int,int) throws java.lang.IllegalArgumentException,java.util.NoSuchElementException",
        "public int NoteMix.next(int) throws java.lang.IllegalArgumentException",
        "public int NoteMix.reach()",
        "public int NoteMix.cassette(int,boolean) throws java.lang.IllegalArgumentException",
        "public int NoteMix.value()",
    };

    private FaceTest() {
    }

    public static void main(String[] args) {
        TreeSet<String> seen = new TreeSet<>();
        for (Constructor<?> made : NoteMix.class.getDeclaredConstructors()) {
            add(seen, made.getModifiers(), made.toString());
        }
        for (Method method : NoteMix.class.getDeclaredMethods()) {
            add(seen, method.getModifiers(), method.toString());
        }
        for (Field field : NoteMix.class.getDeclaredFields()) {
            add(seen, field.getModifiers(), field.toString());
        }
        for (Class<?> inside : NoteMix.class.getDeclaredClasses()) {
            addInside(seen, inside);
        }
        Check.same("the face", new TreeSet<>(Arrays.asList(FACE)).toString(), seen.toString());
        Check.same("the class", "public final", Modifier.toString(NoteMix.class.getModifiers()));
        Check.same("extends", "java.lang.Object", NoteMix.class.getSuperclass().getName());
        Check.same("implements", "[]", Arrays.toString(NoteMix.class.getInterfaces()));
        Check.finish();
    }

    // A class inside may be package-visible; public or protected it is a member more.
    private static void addInside(TreeSet<String> seen, Class<?> inside) {
        int modifiers = inside.getModifiers();
        if (Modifier.isPublic(modifiers) || Modifier.isProtected(modifiers)) {
            seen.add(inside.toString());
        }
    }

    private static void add(TreeSet<String> seen, int modifiers, String text) {
        if (!Modifier.isPrivate(modifiers)) {
            seen.add(text);
        }
    }
}
