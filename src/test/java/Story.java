import java.util.ArrayList;
import java.util.LinkedHashMap;
import java.util.List;
import java.util.Map;
import java.util.function.BiConsumer;
import java.util.function.Consumer;

/**
 * Calls that can be made again and again, each time on a new object. Two stories that differ in one call are compared by
 * all that can be asked after them, now and in several futures; each question stays within an object's 512 calls.
 */
final class Story {
    static final Story NEW = new Story(x -> { });

    /** A little of everything, so that what any one call declares, picks or sets is seen in its runs. */
    static final Story WORLD = new Story(Story::declareWorld);

    private static final Map<String, BiConsumer<SuiteRunner, List<String>>> FUTURES = futures();

    private final Consumer<SuiteRunner> calls;

    private Story(Consumer<SuiteRunner> calls) {
        this.calls = calls;
    }

    /** One method for each name, all of class 0. */
    static Story methods(String... names) {
        return NEW.then(x -> {
            for (String each : names) {
                x.method(0, Words.name(each));
            }
        });
    }

    /** So many methods "a", by turns of class 0, 1, 2 and 3. */
    static Story methods(int count) {
        return NEW.then(x -> {
            for (int m = 0; m < count; m++) {
                x.method(m % 4, Words.name("a"));
            }
        });
    }

    Story then(Consumer<SuiteRunner> more) {
        return new Story(calls.andThen(more));
    }

    SuiteRunner told() {
        SuiteRunner x = new SuiteRunner();
        calls.accept(x);
        return x;
    }

    /** The first thing that tells the stories apart, or nothing. */
    static String difference(Story one, Story other) {
        for (String future : FUTURES.keySet()) {
            List<String> ones = one.view(future);
            List<String> others = other.view(future);
            for (int i = 0; i < ones.size(); i++) {
                if (!ones.get(i).equals(others.get(i))) {
                    return future + ": " + ones.get(i) + ", but " + others.get(i);
                }
            }
        }
        return "";
    }

    private List<String> view(String future) {
        SuiteRunner x = told();
        List<String> lines = new ArrayList<>();
        FUTURES.get(future).accept(x, lines);
        lookAt(x, lines);
        return lines;
    }

    /** Some 260 questions. */
    private static void lookAt(SuiteRunner x, List<String> lines) {
        lines.add("running() " + x.running());
        lines.add("selected() " + x.selected());
        lines.add("circle() " + x.circle());
        for (int w = -1; w <= 3; w++) {
            lines.add("worker(" + w + ") " + x.worker(w));
        }
        for (int m = -1; m <= 16; m++) {
            lines.add("edges(" + m + ") " + x.edges(m));
            for (int what = -1; what <= 7; what++) {
                lines.add("report(" + m + ", " + what + ") " + x.report(m, what));
            }
        }
        for (int k = -2; k <= 64; k++) {
            lines.add("event(" + k + ") " + x.event(k));
        }
    }

    private static Map<String, BiConsumer<SuiteRunner, List<String>>> futures() {
        Map<String, BiConsumer<SuiteRunner, List<String>>> all = new LinkedHashMap<>();
        all.put("now", (x, lines) -> { });
        all.put("a tick on", (x, lines) -> x.tick(1));
        all.put("when the run is over", (x, lines) -> Words.rest(x));
        all.put("in the next run", (x, lines) -> {
            Words.rest(x);
            lines.add("start() " + x.start());
            x.tick(1);
        });
        all.put("after the next run", (x, lines) -> {
            Words.rest(x);
            x.start();
            Words.rest(x);
        });
        all.put("after again", (x, lines) -> {
            Words.rest(x);
            lines.add("again() " + x.again());
            x.start();
            Words.rest(x);
        });
        all.put("when all is selected", (x, lines) -> {
            Words.rest(x);
            x.select(15, 0, 0);
            lines.add("start() " + x.start());
            Words.rest(x);
        });
        all.put("when class 0 is not selected", (x, lines) -> {
            Words.rest(x);
            x.select(14, 0, 0);
            lines.add("start() " + x.start());
            Words.rest(x);
        });
        all.put("when more is declared", (x, lines) -> {
            Words.rest(x);
            lines.add("method(0, \"ab\") " + x.method(0, Words.name("ab")));
            lines.add("configuration(..) " + x.configuration(Words.SUITE, true, 0, 0));
            x.start();
            Words.rest(x);
        });
        all.put("when more is typed", (x, lines) -> {
            Words.rest(x);
            for (int i = 0; i < 13; i++) {
                lines.add("type(true, ..) " + x.type(true, i == 0 ? '*' : '|'));
                lines.add("type(false, ..) " + x.type(false, i == 0 ? '*' : '|'));
            }
        });
        return all;
    }

    /** Two workers; 1 passes by its percent, 4 fails, so 5 is skipped; 6 is blocked half way, 7 has a broken provider. */
    private static void declareWorld(SuiteRunner x) {
        int[] classes = {0, 0, 1, 1, 2, 3, 3, 2};
        String[] names = {"ab", "b", "a", "ca", "c", "d", "ce", "f"};
        for (int m = 0; m < classes.length; m++) {
            x.method(classes[m], Words.name(names[m]));
        }
        x.trait(0, Words.DURATION, 3);
        x.trait(1, Words.GROUPS, 2);
        x.trait(1, Words.COUNT, 2);
        x.trait(1, Words.PROVIDER, 0);
        x.trait(1, Words.BEHAVIOUR, 1 << 3);
        x.trait(1, Words.PERCENT, 75);
        x.trait(4, Words.BEHAVIOUR, 1);
        x.trait(6, Words.COUNT, 2);
        x.trait(7, Words.PROVIDER, 1);
        x.provider(0, 2);
        x.provider(1, -1);
        x.needs(2, 0);
        x.needs(5, 4);
        x.needsGroup(3, 1);
        x.configuration(Words.SUITE, true, 0, 0);
        x.configuration(Words.METHOD, true, 0, 0);
        x.configuration(Words.CLASS, false, 1, 0);
        x.configuration(Words.METHOD, false, 3, 1);
        x.options(2, false, true, false, false);
    }
}
