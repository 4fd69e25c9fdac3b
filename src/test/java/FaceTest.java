import java.lang.reflect.Constructor;
import java.lang.reflect.Field;
import java.lang.reflect.Method;
import java.lang.reflect.Modifier;
import java.util.Arrays;
import java.util.Set;
import java.util.TreeSet;

/** The class shows the document's face and nothing else. */
public final class FaceTest {
    private static final Set<String> FACE = new TreeSet<>(Arrays.asList(
            "void strip(int) IllegalArgumentException",
            "int crease(int,int) IllegalArgumentException UnsupportedOperationException",
            "boolean turn()",
            "int count(int)",
            "int segment(int,int) IndexOutOfBoundsException IllegalArgumentException",
            "int whereIs(int) IllegalArgumentException",
            "int width()",
            "int thickness()",
            "int foldable()",
            "int steps()",
            "int step(int,int) IndexOutOfBoundsException IllegalArgumentException",
            "int orders()",
            "int above(int,int,int) IndexOutOfBoundsException",
            "int layer(int,int,int) IndexOutOfBoundsException",
            "int marks()",
            "int type(int) IllegalArgumentException UnsupportedOperationException",
            "int run()"));

    public static void main(String[] args) {
        Class<?> face = FoldLaboratory.class;
        Checks.due("public and final", true,
                Modifier.isPublic(face.getModifiers()) && Modifier.isFinal(face.getModifiers()));
        Checks.due("NONE", -1, FoldLaboratory.NONE);
        methods(face);
        constructors(face);
        fields(face);
        Checks.end();
    }

    private static void methods(Class<?> face) {
        Set<String> seen = new TreeSet<>();
        for (Method m : face.getDeclaredMethods()) {
            if (!Modifier.isPrivate(m.getModifiers())) {
                Checks.due(m + " is public, of the object", Modifier.PUBLIC, m.getModifiers());
                seen.add(text(m));
            }
        }
        if (!seen.equals(FACE)) {
            Checks.fail("the methods are " + seen);
        }
    }

    private static String text(Method m) {
        StringBuilder all = new StringBuilder(m.getReturnType() + " " + m.getName() + "(");
        for (int i = 0; i < m.getParameterCount(); i++) {
            all.append(i == 0 ? "" : ",").append(m.getParameterTypes()[i]);
        }
        all.append(")");
        for (Class<?> e : m.getExceptionTypes()) {
            all.append(" ").append(e.getSimpleName());
        }
        return all.toString();
    }

    private static void constructors(Class<?> face) {
        Constructor<?>[] all = face.getDeclaredConstructors();
        Checks.due("constructors", 1, all.length);
        Checks.due("the constructor's parameters", 0, all[0].getParameterCount());
        Checks.due("the constructor is public", Modifier.PUBLIC, all[0].getModifiers());
    }

    private static void fields(Class<?> face) {
        for (Field f : face.getDeclaredFields()) {
            Checks.due(f + " is private, or NONE", true,
                    Modifier.isPrivate(f.getModifiers()) || f.getName().equals("NONE"));
            Checks.due(f + " is final if it is static", true,
                    Modifier.isFinal(f.getModifiers()) || !Modifier.isStatic(f.getModifiers()));
        }
    }
}
