import java.lang.reflect.Constructor;
import java.lang.reflect.Field;
import java.lang.reflect.Member;
import java.lang.reflect.Method;
import java.lang.reflect.Modifier;
import java.util.Arrays;
import java.util.Set;
import java.util.TreeSet;

/** The class's face: every constant, constructor and method of the document, and no other. */
public final class FaceTest {
    private static final String I = "IndexOutOfBoundsException";
    private static final String A = "IllegalArgumentException";

    public static void main(String[] args) {
        Check check = new Check();
        Class<?> face = PackSeeds.class;
        Set<String> due = new TreeSet<>(Arrays.asList(
            "int pattern() UnsupportedOperationException", "boolean care(int,int,int,int) " + I + " " + A,
            "int join()", "void degree(int) " + A, "boolean machine(int,boolean) " + I + " " + A,
            "int seed(int) " + I, "int seedOf(int) " + I, "int bit(int,int,int) " + I,
            "boolean found(int,int) " + I, "int drop()", "int finders(int) " + I,
            "boolean mask(int,int,int) " + I, "long signature(int,int) " + A, "boolean primitive()",
            "long alias(int,int) " + A, "boolean fill(int) " + A, "long shifts(int) " + I, "int count(int) " + I));
        Set<String> open = new TreeSet<>();
        Set<String> names = new TreeSet<>();
        Set<String> hidden = new TreeSet<>();
        for (Method m : face.getDeclaredMethods()) {
            if (isOpen(m)) {
                open.add(told(m));
                names.add(m.getName());
                check.due(m.getName() + " is public and of the object", Modifier.PUBLIC, m::getModifiers);
            } else {
                hidden.add(m.getName());
            }
        }
        hidden.retainAll(names);
        check.due("methods", due.toString(), open::toString);
        check.due("private methods with a public one's name", "[]", hidden::toString);
        check.due("class is public and final", Modifier.PUBLIC | Modifier.FINAL, face::getModifiers);
        check.due("constants", "[NONE]", () -> openFields(face).toString());
        check.due("NONE", -1, () -> PackSeeds.NONE);
        Constructor<?>[] makers = face.getDeclaredConstructors();
        check.due("constructors", 1, () -> makers.length);
        check.due("constructor", "public PackSeeds(int,int)", () -> makers[0].toString());
        check.end();
    }

    private static boolean isOpen(Member m) {
        return !Modifier.isPrivate(m.getModifiers()) && !m.isSynthetic();
    }

    private static Set<String> openFields(Class<?> face) {
        Set<String> open = new TreeSet<>();
        for (Field f : face.getDeclaredFields()) {
            if (isOpen(f)) {
                open.add(f.getName());
            }
        }
        return open;
    }

    private static String told(Method m) {
        StringBuilder text = new StringBuilder();
        text.append(m.getReturnType().getSimpleName()).append(' ').append(m.getName()).append('(');
        for (int i = 0; i < m.getParameterCount(); i++) {
            text.append(i == 0 ? "" : ",").append(m.getParameterTypes()[i].getSimpleName());
        }
        text.append(')');
        for (Class<?> thrown : m.getExceptionTypes()) {
            text.append(' ').append(thrown.getSimpleName());
        }
        return text.toString();
    }
}
