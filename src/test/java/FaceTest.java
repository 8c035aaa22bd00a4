import java.lang.reflect.Constructor;
import java.lang.reflect.Field;
import java.lang.reflect.Method;
import java.lang.reflect.Modifier;
import java.util.Arrays;
import java.util.Set;
import java.util.TreeSet;

/** The public face is the document's, and has no more than that. */
public final class FaceTest {
    private static final Class<?> FACE = SuiteRunner.class;

    public static void main(String[] args) {
        Check.all(FaceTest.class);
    }

    static void theClass() {
        Check.yes("public and final", Modifier.isPublic(FACE.getModifiers()) && Modifier.isFinal(FACE.getModifiers()));
        Constructor<?>[] constructors = FACE.getDeclaredConstructors();
        Check.due("constructors", constructors.length, 1);
        Check.due("its modifiers", constructors[0].getModifiers(), Modifier.PUBLIC);
        Check.due("its parameters", constructors[0].getParameterCount(), 0);
    }

    static void theFields() {
        Check.due("NONE", SuiteRunner.NONE, -1);
        for (Field f : FACE.getDeclaredFields()) {
            Check.yes("private but for NONE: " + f.getName(), Modifier.isPrivate(f.getModifiers()) || f.getName().equals("NONE"));
            Check.yes("static is final: " + f.getName(), !Modifier.isStatic(f.getModifiers()) || Modifier.isFinal(f.getModifiers()));
        }
    }

    static void theMethods() {
        Set<String> due = new TreeSet<>(Arrays.asList(
            "int method(int, long)", "boolean trait(int, int, int)", "boolean needs(int, int)",
            "boolean needsGroup(int, int)", "boolean provider(int, int)",
            "int configuration(int, boolean, int, int)", "boolean type(boolean, char)",
            "boolean select(int, int, int)", "boolean options(int, boolean, boolean, boolean, boolean)",
            "int start()", "int tick(int)", "int again()", "boolean running()", "int selected()",
            "int edges(int)", "int circle()", "int report(int, int)", "int worker(int)", "int event(int)"));
        Set<String> got = new TreeSet<>();
        Set<String> publicNames = new TreeSet<>();
        for (Method m : FACE.getDeclaredMethods()) {
            if (!Modifier.isPrivate(m.getModifiers())) {
                String types = Arrays.toString(m.getParameterTypes());
                got.add(m.getReturnType() + " " + m.getName() + "(" + types.substring(1, types.length() - 1) + ")");
                publicNames.add(m.getName());
                Check.due("modifiers of " + m.getName(), m.getModifiers(), Modifier.PUBLIC);
            }
        }
        Check.due("methods that differ: " + got, got.equals(due) ? 0 : 1, 0);
        for (Method m : FACE.getDeclaredMethods()) {
            Check.no("a private " + m.getName(), Modifier.isPrivate(m.getModifiers()) && publicNames.contains(m.getName()));
        }
    }
}
