import java.lang.reflect.Constructor;
import java.lang.reflect.Field;
import java.lang.reflect.Method;
import java.lang.reflect.Modifier;
import java.util.Arrays;
import java.util.Set;
import java.util.TreeSet;

/** The face is the document's, and a new object has nothing declared (promise 1). */
public final class FaceTest {
    private static final Check CHECK = new Check("FaceTest");

    public static void main(String[] args) {
        faceIsTheDocuments();
        newObject();
        objectsAreApart();
        CHECK.end();
    }

    private static void faceIsTheDocuments() {
        Class<?> face = SuiteRunner.class;
        CHECK.yes("public and final", Modifier.isPublic(face.getModifiers()) && Modifier.isFinal(face.getModifiers()));
        Set<String> due = new TreeSet<>(Arrays.asList(
            "int method(int, long)", "boolean trait(int, int, int)", "boolean needs(int, int)",
            "boolean needsGroup(int, int)", "boolean provider(int, int)",
            "int configuration(int, boolean, int, int)", "boolean type(boolean, char)",
            "boolean select(int, int, int)", "boolean options(int, boolean, boolean, boolean, boolean)",
            "int start()", "int tick(int)", "int again()", "boolean running()", "int selected()",
            "int edges(int)", "int circle()", "int report(int, int)", "int worker(int)", "int event(int)"));
        Set<String> got = new TreeSet<>();
        Set<String> publicNames = new TreeSet<>();
        for (Method m : face.getDeclaredMethods()) {
            if (!Modifier.isPrivate(m.getModifiers())) {
                String types = Arrays.toString(m.getParameterTypes());
                got.add(m.getReturnType() + " " + m.getName() + "(" + types.substring(1, types.length() - 1) + ")");
                publicNames.add(m.getName());
                CHECK.due("modifiers of " + m.getName(), m.getModifiers(), Modifier.PUBLIC);
            }
        }
        CHECK.due("methods that differ: " + got, got.equals(due) ? 0 : 1, 0);
        for (Method m : face.getDeclaredMethods()) {
            CHECK.no("a private " + m.getName(), Modifier.isPrivate(m.getModifiers()) && publicNames.contains(m.getName()));
        }
        for (Field f : face.getDeclaredFields()) {
            CHECK.yes("private but for NONE: " + f.getName(), Modifier.isPrivate(f.getModifiers()) || f.getName().equals("NONE"));
            CHECK.yes("static is final: " + f.getName(), !Modifier.isStatic(f.getModifiers()) || Modifier.isFinal(f.getModifiers()));
        }
        Constructor<?>[] constructors = face.getDeclaredConstructors();
        CHECK.due("constructors", constructors.length, 1);
        CHECK.due("its modifiers", constructors[0].getModifiers(), Modifier.PUBLIC);
        CHECK.due("NONE", SuiteRunner.NONE, -1);
    }

    private static void newObject() {
        SuiteRunner x = new SuiteRunner();
        CHECK.no("running", x.running());
        CHECK.due("selected", x.selected(), 0);
        CHECK.due("circle", x.circle(), 0);
        CHECK.due("edges(0)", x.edges(0), 0);
        CHECK.due("start", x.start(), -1);
        CHECK.due("tick(5)", x.tick(5), 0);
        CHECK.due("again", x.again(), -1);
        CHECK.due("event(-1)", x.event(-1), 0);
        CHECK.due("event(0)", x.event(0), -1);
        for (int i = 0; i < 4; i++) {
            CHECK.due("worker " + i, x.worker(i), -1);
            CHECK.due("report(0, " + i + ")", x.report(0, i), -1);
        }
        CHECK.no("trait of none", x.trait(0, 0, 0));
        CHECK.no("needs of none", x.needs(0, 0));
        CHECK.no("needsGroup of none", x.needsGroup(0, 0));
        CHECK.due("first method", x.method(0, 1), 0);
        CHECK.due("first configuration", x.configuration(0, true, 0, 0), 0);
    }

    private static void objectsAreApart() {
        SuiteRunner one = Words.withMethods("a", "b");
        SuiteRunner other = Words.withMethods("c");
        one.start();
        CHECK.no("the other runs", other.running());
        CHECK.due("the other has", other.selected(), 1);
        CHECK.due("one has", one.selected(), 3);
    }
}
