import java.lang.reflect.Constructor;
import java.lang.reflect.Field;
import java.lang.reflect.Method;
import java.lang.reflect.Modifier;
import java.util.Arrays;
import java.util.TreeSet;

/** The public face, and that nothing else is seen from outside (rule 1 of LANGUAGE.md). */
public final class FaceTest {
    private static final String[] FACE = {
        "int word(int)", "int change(int, int)", "void begin(int)", "int run(int)", "int state()",
        "int register(int)", "int set(int, int)", "int peek(int)", "int input(long, int)",
        "long take()", "int count(int)",
    };

    private static final String[] THROWN = {
        "word IllegalStateException", "change IndexOutOfBoundsException", "begin IndexOutOfBoundsException",
        "run IllegalArgumentException IllegalStateException", "state", "register IndexOutOfBoundsException",
        "set IndexOutOfBoundsException", "peek", "input IllegalArgumentException IllegalStateException",
        "take", "count IllegalArgumentException",
    };

    public static void main(String[] args) {
        Due due = new Due("FaceTest");
        Class<RvMachine> face = RvMachine.class;
        due.isTrue("public final", Modifier.isPublic(face.getModifiers()) && Modifier.isFinal(face.getModifiers()));
        due.isTrue("no package", face.getPackageName().isEmpty());
        Constructor<?>[] constructors = face.getDeclaredConstructors();
        due.is("constructors", constructors.length, 1);
        due.isTrue("a public one without parameters",
            Modifier.isPublic(constructors[0].getModifiers()) && constructors[0].getParameterCount() == 0);
        lookAtMethods(due, face);
        for (Field f : face.getDeclaredFields()) {
            due.isTrue("private: " + f, Modifier.isPrivate(f.getModifiers()));
            due.isTrue("final if static: " + f,
                !Modifier.isStatic(f.getModifiers()) || Modifier.isFinal(f.getModifiers()));
        }
        for (Class<?> c : face.getDeclaredClasses()) {
            due.isTrue("static and not public: " + c, Modifier.isStatic(c.getModifiers())
                && !Modifier.isPublic(c.getModifiers()) && !Modifier.isProtected(c.getModifiers()));
        }
        due.end();
    }

    private static void lookAtMethods(Due due, Class<?> face) {
        TreeSet<String> seen = new TreeSet<>();
        TreeSet<String> thrown = new TreeSet<>();
        TreeSet<String> names = new TreeSet<>();
        for (Method m : face.getDeclaredMethods()) {
            if (!Modifier.isPublic(m.getModifiers())) {
                continue;
            }
            due.isTrue("not static: " + m, !Modifier.isStatic(m.getModifiers()));
            names.add(m.getName());
            String parameters = Arrays.toString(m.getParameterTypes());
            seen.add(m.getReturnType() + " " + m.getName()
                + "(" + parameters.substring(1, parameters.length() - 1) + ")");
            StringBuilder line = new StringBuilder(m.getName());
            for (Class<?> e : m.getExceptionTypes()) {
                line.append(' ').append(e.getSimpleName());
            }
            thrown.add(line.toString());
        }
        due.isTrue("methods are as the document has them: " + seen, seen.equals(new TreeSet<>(Arrays.asList(FACE))));
        due.isTrue("their exceptions too: " + thrown, thrown.equals(new TreeSet<>(Arrays.asList(THROWN))));
        for (Method m : face.getDeclaredMethods()) {
            if (!Modifier.isPublic(m.getModifiers())) {
                due.isTrue("private: " + m, Modifier.isPrivate(m.getModifiers()));
                due.isTrue("no name of a public one: " + m, !names.contains(m.getName()));
            }
        }
    }
}
