import java.lang.reflect.InvocationTargetException;
import java.lang.reflect.Method;
import java.lang.reflect.Modifier;
import java.util.ArrayList;
import java.util.Comparator;
import java.util.List;
import java.util.function.Predicate;
import java.util.function.ToIntFunction;

/** Runs the tests of a class, counts the answers that are not as due, and prints each of them. */
final class Check {
    private static String test = "";
    private static int wrong;

    private Check() {
    }

    /** Runs every static method of the class that is neither public nor private, takes nothing and answers nothing. */
    static void all(Class<?> tests) {
        List<Method> found = new ArrayList<>();
        for (Method each : tests.getDeclaredMethods()) {
            if (isTest(each)) {
                found.add(each);
            }
        }
        found.sort(Comparator.comparing(Method::getName));
        if (found.isEmpty()) {
            tell(tests.getName() + " has no test");
        }
        for (Method each : found) {
            test = tests.getName() + "." + each.getName();
            run(each);
        }
        if (wrong != 0) {
            System.out.println(tests.getName() + ": " + wrong + " answers are not as due");
            System.exit(1);
        }
    }

    private static boolean isTest(Method method) {
        boolean visible = Modifier.isPublic(method.getModifiers()) || Modifier.isPrivate(method.getModifiers());
        return !visible && !method.isSynthetic() && Modifier.isStatic(method.getModifiers())
            && method.getParameterCount() == 0 && method.getReturnType() == void.class;
    }

    private static void run(Method method) {
        try {
            method.setAccessible(true);
            method.invoke(null);
        } catch (InvocationTargetException e) {
            tell("threw " + e.getCause());
        } catch (IllegalAccessException e) {
            tell("could not be run: " + e);
        }
    }

    private static void tell(String text) {
        wrong++;
        System.out.println(test + ": " + text);
    }

    static void due(String what, long got, long want) {
        if (got != want) {
            tell(what + " answered " + got + ", due is " + want);
        }
    }

    static void yes(String what, boolean got) {
        due(what, got ? 1 : 0, 1);
    }

    static void no(String what, boolean got) {
        due(what, got ? 1 : 0, 0);
    }

    /** All events of the latest run (at most 64), the first one first, as text. */
    static void events(String what, SuiteRunner x, String... want) {
        int count = x.event(-1);
        due(what + ": how many events", count, want.length);
        for (int i = 0; i < count && i < want.length; i++) {
            String got = Words.event(x.event(count - 1 - i));
            if (!got.equals(want[i])) {
                tell(what + ": event " + i + " was '" + got + "', due is '" + want[i] + "'");
            }
        }
    }

    /** What is reported of method m: status, PASSes, FAILs, SKIPs, invocations entered, when it was taken, when it ended. */
    static void report(String what, SuiteRunner x, int m, int... want) {
        for (int i = 0; i < want.length; i++) {
            due(what + ": report(" + m + ", " + i + ")", x.report(m, i), want[i]);
        }
    }

    /** Nothing that can be asked tells the two stories apart, neither now nor later. */
    static void same(String what, Story one, Story other) {
        String difference = Story.difference(one, other);
        if (!difference.isEmpty()) {
            tell(what + ": there is a difference: " + difference);
        }
    }

    /** Something tells the two stories apart; shows that same() looks where it should. */
    static void differ(String what, Story one, Story other) {
        if (Story.difference(one, other).isEmpty()) {
            tell(what + ": there is no difference");
        }
    }

    /** The call answers so, and has changed nothing. */
    static void refused(String what, Story before, ToIntFunction<SuiteRunner> call, int want) {
        due(what, call.applyAsInt(before.told()), want);
        same(what + " is refused", before, before.then(x -> call.applyAsInt(x)));
    }

    /** The call answers false, and has changed nothing. */
    static void refused(String what, Story before, Predicate<SuiteRunner> call) {
        refused(what, before, x -> call.test(x) ? 1 : 0, 0);
    }

    /** The call answers so, and what it has changed can be seen. */
    static void taken(String what, Story before, ToIntFunction<SuiteRunner> call, int want) {
        due(what, call.applyAsInt(before.told()), want);
        differ(what + " is taken", before, before.then(x -> call.applyAsInt(x)));
    }

    /** The call answers true, and what it has changed can be seen. */
    static void taken(String what, Story before, Predicate<SuiteRunner> call) {
        taken(what, before, x -> call.test(x) ? 1 : 0, 1);
    }

    /** That a run is under way is the one reason to refuse the call: before it and after it, it is taken. */
    static void refusedUnderWay(String what, ToIntFunction<SuiteRunner> call, int wantTaken, int wantRefused) {
        Story started = Story.WORLD.then(SuiteRunner::start);
        Story over = started.then(Words::rest);
        taken(what + " before a run", Story.WORLD, call, wantTaken);
        refused(what + " when it has just started", started, call, wantRefused);
        refused(what + " in its middle", started.then(x -> x.tick(2)), call, wantRefused);
        refused(what + " a tick before its end", started.then(x -> x.tick(over.told().event(0) / 2048 - 1)), call, wantRefused);
        taken(what + " after it", over, call, wantTaken);
    }

    static void refusedUnderWay(String what, Predicate<SuiteRunner> call) {
        refusedUnderWay(what, x -> call.test(x) ? 1 : 0, 1, 0);
    }
}
