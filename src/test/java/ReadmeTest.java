import java.io.File;
import java.io.IOException;
import java.lang.reflect.Method;
import java.lang.reflect.Modifier;
import java.nio.file.Files;
import java.nio.file.Path;
import java.util.ArrayList;
import java.util.List;

/** README.md: its example answers as it says there, and it names every call and every test. Runs at the project's root. */
public final class ReadmeTest {
    private static final Path README = Path.of("README.md");
    private static final Path TESTS = Path.of("src/test/java");

    public static void main(String[] args) {
        Check.all(ReadmeTest.class);
    }

    static void theExampleAnswersAsItSays() {
        // The example begins.
        SuiteRunner x = new SuiteRunner();
        int open = x.method(0, 15 | 16 << 5);    // 0: a method of class 0 with the name "op"
        int read = x.method(0, 18);              // 1: its name is "r"
        int shut = x.method(0, 19);              // 2: its name is "s"
        x.needs(read, open);                     // read waits until open has ended
        x.needs(shut, read);                     // and shut until read has
        x.trait(open, 5, 3);                     // DURATION: each invocation of open lasts three ticks
        x.trait(open, 8, 1);                     // BEHAVIOUR: in the first invocation of open a check fails
        x.trait(shut, 2, 1);                     // ALWAYS: shut is not skipped because of what it needs
        x.configuration(2, true, 0, 0);          // 0: BEFORE of METHOD in class 0; it never fails
        x.options(2, false, true, false, false); // two workers
        int started = x.start();                 // 0: a run is under way
        int first = x.tick(2);                   // 2 ticks were made
        int held = x.worker(0);                  // 0: open
        int rest = x.tick(100);                  // 3 more, then the run was over
        int opened = x.report(open, 0);          // 4: FAILED, with one FAIL and PERCENT 100
        int wasRead = x.report(read, 0);         // 5: SKIPPED, because open is FAILED
        int wasShut = x.report(shut, 0);         // 3: PASSED
        int latest = x.event(0);                 // 4 + 2048 * 5: at time 5 the run was over
        int set = x.again();                     // 3, that is open and read: only these are selected now
        // The example ends.
        int[] got = {open, read, shut, started, first, held, rest, opened, wasRead, wasShut, latest, set, x.selected()};
        int[] want = {0, 1, 2, 0, 2, 0, 3, 4, 5, 3, 4 + 2048 * 5, 3, 3};
        for (int i = 0; i < want.length; i++) {
            Check.due("answer " + i + " of the example", got[i], want[i]);
        }
        Check.report("shut went on after read", x, shut, 3, 1, 0, 0, 1, 4, 5);
        Check.events("the example", x, "1 conf 0 1", "1 enter 0 0", "4 end 0 2", "4 done 0 4", "4 done 1 5",
            "4 conf 0 1", "4 enter 2 0", "5 end 2 1", "5 done 2 3", "5 over 0 0");
    }

    static void theExampleIsThatOfTheReadme() throws IOException {
        List<String> here = between(TESTS.resolve("ReadmeTest.java"), "// The example begins.", "// The example ends.");
        List<String> there = between(README, "```java", "```");
        Check.no("no example", there.isEmpty());
        Check.yes("the same lines", here.equals(there));
    }

    static void everyCallIsNamed() throws IOException {
        String text = Files.readString(README);
        for (Method call : SuiteRunner.class.getDeclaredMethods()) {
            if (Modifier.isPublic(call.getModifiers())) {
                Check.yes(call.getName(), text.contains("\n- `" + call.getName() + "("));
            }
        }
    }

    static void everyTestIsNamed() throws IOException {
        String text = Files.readString(README);
        for (File each : TESTS.toFile().listFiles()) {
            String name = each.getName().replace(".java", "");
            Check.yes(name, text.contains("`" + name + "`") || text.contains("`" + name + "."));
        }
    }

    /** The lines after the first line that is begin, up to the next that is end, without the space around them. */
    private static List<String> between(Path file, String begin, String end) throws IOException {
        List<String> found = new ArrayList<>();
        boolean inside = false;
        for (String line : Files.readAllLines(file)) {
            String plain = line.strip();
            if (inside && plain.equals(end)) {
                return found;
            }
            if (inside) {
                found.add(plain);
            }
            inside |= plain.equals(begin);
        }
        return found;
    }
}
