/** Promise 20: event. The latest 64 can be seen, and all are counted. */
public final class EventTest {
    private static final int NONE = SuiteRunner.NONE;

    public static void main(String[] args) {
        Check.all(EventTest.class);
    }

    private static int event(int kind, int number, int result, int time) {
        return kind + 8 * number + 128 * result + 2048 * time;
    }

    static void theKinds() {
        SuiteRunner x = Story.methods(16).told();
        x.select(8, 0, 0);
        Words.typeAll(x, true, "a");
        x.configuration(Words.SUITE, true, 0, 0);
        x.configuration(Words.SUITE, false, 0, 1);
        x.trait(3, Words.BEHAVIOUR, 1);
        x.trait(7, Words.BEHAVIOUR, 5);
        Words.run(x);
        int[] due = {event(0, 0, 1, 1), event(1, 3, 0, 1), event(2, 3, 2, 2), event(3, 3, 4, 2), event(1, 7, 0, 2),
            event(2, 7, 3, 3), event(3, 7, 5, 3), event(1, 11, 0, 3), event(2, 11, 1, 4), event(3, 11, 3, 4),
            event(1, 15, 0, 4), event(2, 15, 1, 5), event(3, 15, 3, 5), event(0, 1, 2, 5), event(4, 0, 0, 5)};
        Check.due("how many", x.event(-1), due.length);
        for (int k = 0; k < due.length; k++) {
            Check.due("event " + k, x.event(k), due[due.length - 1 - k]);
        }
    }

    /** Invocation 15 is the greatest result, configuration 7 and method 15 the greatest numbers. */
    static void theGreatestNumbers() {
        SuiteRunner x = Story.methods(16).told();
        x.provider(0, 4);
        x.trait(15, Words.PROVIDER, 0);
        x.trait(15, Words.COUNT, 4);
        for (int c = 0; c < 8; c++) {
            x.configuration(Words.SUITE, false, 3, c == 7 ? 1 : 0);
        }
        Words.run(x);
        int end = 15 + 16 + 1;
        Check.due("over", x.event(0), event(4, 0, 0, end));
        Check.due("configuration 7", x.event(1), event(0, 7, 2, end));
        Check.due("method 15", x.event(9), event(3, 15, 3, end));
        Check.due("its last invocation has ended", x.event(10), event(2, 15, 1, end));
        Check.due("and was entered", x.event(11), event(1, 15, 15, end - 1));
    }

    static void noneYet() {
        SuiteRunner x = Story.methods("a").told();
        for (int i = 0; i < 2; i++) {
            Check.due("how many", x.event(-1), 0);
            Check.due("the latest", x.event(0), NONE);
            Check.due("the 63rd latest", x.event(63), NONE);
            x.start();
        }
        x.tick(1);
        Check.due("one", x.event(-1), 1);
        Check.due("the latest", x.event(0), event(1, 0, 0, 1));
        Check.due("no other", x.event(1), NONE);
    }

    static void kIs0To63() {
        SuiteRunner x = Story.methods(16).then(Words::run).told();
        Check.due("how many", x.event(-1), 49);
        for (int wrong : new int[] {-2, -3, 64, 65, 127, 128, 1 << 16, Integer.MIN_VALUE, Integer.MAX_VALUE}) {
            Check.due("k = " + wrong, x.event(wrong), NONE);
        }
        Check.due("the first", x.event(48), event(1, 0, 0, 1));
        Check.due("there were not so many", x.event(49), NONE);
        Check.due("nor so many", x.event(63), NONE);
    }

    /** 16 and 12 invocations of two methods make 59 events, and each configuration one more. */
    private static SuiteRunner withEvents(int count) {
        SuiteRunner x = Story.methods("a", "b").told();
        x.provider(0, 4);
        for (int m = 0; m < 2; m++) {
            x.trait(m, Words.PROVIDER, 0);
            x.trait(m, Words.COUNT, 4 - m);
        }
        for (int c = 59; c < count; c++) {
            x.configuration(Words.SUITE, true, 0, 0);
        }
        Words.run(x);
        return x;
    }

    /** From fewer than 64 to more: the 64th latest is seen as soon as there is one, and no other takes its place. */
    static void upTo64AndAbove() {
        for (int count = 59; count <= 67; count++) {
            SuiteRunner x = withEvents(count);
            Check.due("how many", x.event(-1), count);
            int configurations = count - 59;
            for (int k = 0; k < 64; k++) {
                Check.due(count + " events, k = " + k, x.event(k), expected(count - 1 - k, configurations));
            }
            Check.due(count + " events, k = 64", x.event(64), NONE);
            Check.due(count + " events, the first", x.event(count - 1), count <= 64 ? expected(0, configurations) : NONE);
        }
    }

    /** Event i of withEvents, from the first one. */
    private static int expected(int i, int configurations) {
        if (i < 0) {
            return NONE;
        }
        if (i < configurations) {
            return event(0, i, 1, 1);
        }
        int n = i - configurations;
        if (n == 58) {
            return event(4, 0, 0, 29);
        }
        int m = n < 33 ? 0 : 1;
        int own = m == 0 ? n : n - 33;
        int invocations = m == 0 ? 16 : 12;
        int begun = m == 0 ? 1 : 17;
        if (own == 2 * invocations) {
            return event(3, m, 3, begun + invocations);
        }
        return own % 2 == 0 ? event(1, m, own / 2, begun + own / 2) : event(2, m, 1, begun + own / 2 + 1);
    }

    /** "(also above 64)": many times as many. */
    static void countedFarAbove64() {
        SuiteRunner x = Story.methods(16).told();
        x.provider(0, 4);
        for (int m = 0; m < 16; m++) {
            x.trait(m, Words.COUNT, 4);
            x.trait(m, Words.PROVIDER, 0);
        }
        x.start();
        // Each method has 33 events in 16 ticks; at its end the next one is entered, or the run is over.
        x.tick(1);
        for (int ended = 0; ended <= 16; ended++) {
            Check.due("when " + ended + " have ended", x.event(-1), 33 * ended + 1);
            x.tick(16);
        }
        Check.due("over", x.event(0), event(4, 0, 0, 257));
        Check.due("the 63rd latest", x.event(63), event(2, 14, 1, 227));
        Check.due("the 64th latest", x.event(64), NONE);
    }

    static void staysUntilTheNextRunStarts() {
        SuiteRunner x = Story.methods("a").told();
        Words.run(x);
        x.tick(100);
        x.select(0, 0, 0);
        x.start();
        Check.events("after the run", x, "1 enter 0 0", "2 end 0 1", "2 done 0 3", "2 over 0 0");
        x.select(15, 0, 0);
        x.start();
        Check.due("none of the run before", x.event(0), NONE);
        Check.due("how many", x.event(-1), 0);
        Check.due("nor farther back", x.event(3), NONE);
        x.tick(1);
        Check.due("the first one", x.event(0), event(1, 0, 0, 1));
        Check.due("is the only one", x.event(1), NONE);
    }

    /** A run of more than 64 events and then one of few: those of the first are not seen behind the few. */
    static void fewAfterMany() {
        SuiteRunner x = withEvents(67);
        x.trait(0, Words.COUNT, 1);
        x.provider(0, 1);
        x.trait(1, Words.COUNT, 1);
        Words.run(x);
        Check.due("how many", x.event(-1), 15);
        Check.due("the first", x.event(14), event(0, 0, 1, 1));
        Check.due("none before it", x.event(15), NONE);
        Check.due("none at 63", x.event(63), NONE);
    }

    static void askingChangesNothing() {
        Story middle = Story.WORLD.then(SuiteRunner::start).then(x -> x.tick(2));
        Check.same("asked", middle, middle.then(x -> x.event(0)).then(x -> x.event(-1)));
    }
}
