/** Promise 12: tick. From 0 to 100 of them, or fewer; and when a tick is which. */
public final class TickTest {
    private static final int NONE = SuiteRunner.NONE;
    private static final int[] WRONG = {-1, 101, -2, 102, 128, -100, 1 << 16, Integer.MIN_VALUE, Integer.MAX_VALUE};

    public static void main(String[] args) {
        Check.all(TickTest.class);
    }

    /** A run that was started, with a method for each duration. */
    private static Story lasting(int... durations) {
        return Story.NEW.then(x -> {
            for (int m = 0; m < durations.length; m++) {
                x.method(0, Words.name("a"));
                x.trait(m, Words.DURATION, durations[m]);
            }
            x.start();
        });
    }

    static void anotherNumberIsRefused() {
        Story started = Story.WORLD.then(SuiteRunner::start);
        for (int n : WRONG) {
            Check.refused("when just started: " + n, started, x -> x.tick(n), NONE);
            Check.refused("in the middle: " + n, started.then(x -> x.tick(2)), x -> x.tick(n), NONE);
        }
    }

    /** The number is wrong whether or not there is a run. */
    static void anotherNumberIsRefusedWithoutARun() {
        for (int n : WRONG) {
            Check.refused("before any run: " + n, Story.WORLD, x -> x.tick(n), NONE);
            Check.refused("after a run: " + n, Story.WORLD.then(Words::run), x -> x.tick(n), NONE);
        }
    }

    static void noneWithoutARun() {
        for (int n : new int[] {0, 1, 99, 100}) {
            Check.refused("before any run: " + n, Story.WORLD, x -> x.tick(n), 0);
            Check.refused("after a run: " + n, Story.WORLD.then(Words::run), x -> x.tick(n), 0);
        }
        Story refusedStart = Story.WORLD.then(x -> x.select(0, 0, 0)).then(SuiteRunner::start);
        Check.refused("after a start that was refused", refusedStart, x -> x.tick(5), 0);
    }

    static void noTickAtAll() {
        Story started = Story.WORLD.then(SuiteRunner::start);
        Check.refused("0 when just started", started, x -> x.tick(0), 0);
        Check.refused("0 in the middle", started.then(x -> x.tick(3)), x -> x.tick(0), 0);
    }

    static void asManyAsAsked() {
        Story started = Story.WORLD.then(SuiteRunner::start);
        for (int n = 1; n <= 5; n++) {
            int made = n;
            Check.due("ticks", started.told().tick(n), n);
            Check.same(n + " at once or one by one", started.then(x -> x.tick(made)), started.then(x -> {
                for (int i = 0; i < made; i++) {
                    x.tick(1);
                }
            }));
        }
    }

    /** The run takes its first tick to begin, then as many as its methods last, with one worker. */
    static void fewerIfTheRunIsOverBefore() {
        SuiteRunner x = lasting(1).told();
        Check.due("2 of 3", x.tick(3), 2);
        Check.due("0 of 3", x.tick(3), 0);
        SuiteRunner y = lasting(9, 9).told();
        Check.due("19 of 20", y.tick(20), 19);
        SuiteRunner z = lasting(9, 9).told();
        Check.due("19 of 19", z.tick(19), 19);
        Check.no("over", z.running());
        SuiteRunner early = lasting(9, 9).told();
        Check.due("18 of 18", early.tick(18), 18);
        Check.yes("not over", early.running());
        Check.due("the last one", early.tick(100), 1);
    }

    /** Eleven methods of 9 ticks make 99, and the first tick takes the first. */
    static void aRunOfAHundred() {
        SuiteRunner x = lasting(9, 9, 9, 9, 9, 9, 9, 9, 9, 9, 9).told();
        Check.due("100 of 100", x.tick(100), 100);
        Check.no("over", x.running());
        SuiteRunner shorter = lasting(9, 9, 9, 9, 9, 9, 9, 9, 9, 9, 8).told();
        Check.due("99 of 100", shorter.tick(100), 99);
        Check.no("over", shorter.running());
        SuiteRunner longer = lasting(9, 9, 9, 9, 9, 9, 9, 9, 9, 9, 9, 1).told();
        Check.due("100 of 101", longer.tick(100), 100);
        Check.yes("still under way", longer.running());
        Check.due("one more", longer.tick(100), 1);
        Check.due("over at", longer.event(0), 4 + 2048 * 101);
    }

    /** 16 methods of 16 invocations of 9 ticks, and one tick to begin with. */
    static void theLongestRun() {
        SuiteRunner x = Story.methods(16).told();
        x.provider(0, 4);
        for (int m = 0; m < 16; m++) {
            x.trait(m, Words.COUNT, 4);
            x.trait(m, Words.PROVIDER, 0);
            x.trait(m, Words.DURATION, 9);
        }
        x.start();
        int made = 0;
        for (int i = 0; i < 24; i++) {
            made += x.tick(100);
        }
        Check.due("ticks", made, 16 * 16 * 9 + 1);
        Check.no("over", x.running());
        Check.due("the time", x.event(0), 4 + 2048 * made);
        Check.due("how many events", x.event(-1), 16 * 33 + 1);
        Check.report("the last", x, 15, Words.PASSED, 16, 0, 0, 16, made - 144, made);
    }

    /** Where nothing lasts, a run is over in its first tick. */
    static void theShortestRun() {
        SuiteRunner x = Story.methods(16).told();
        x.provider(0, -1);
        for (int m = 0; m < 16; m++) {
            x.trait(m, Words.PROVIDER, 0);
        }
        x.start();
        Check.due("ticks", x.tick(100), 1);
        for (int m = 0; m < 16; m++) {
            Check.report("method " + m, x, m, Words.SKIPPED, 0, 0, 0, 0, 1, 1);
        }
        Check.due("events", x.event(-1), 17);
    }

    static void workersEndByNumberThenTakeByNumber() {
        SuiteRunner x = Words.withMethods("a", "b", "c", "d", "e", "f");
        x.options(3, false, true, false, false);
        x.trait(1, Words.DURATION, 2);
        x.start();
        x.tick(100);
        Check.events("three workers", x, "1 enter 0 0", "1 enter 1 0", "1 enter 2 0",
            "2 end 0 1", "2 done 0 3", "2 end 2 1", "2 done 2 3", "2 enter 3 0", "2 enter 4 0",
            "3 end 3 1", "3 done 3 3", "3 end 1 1", "3 done 1 3", "3 end 4 1", "3 done 4 3", "3 enter 5 0",
            "4 end 5 1", "4 done 5 3", "4 over 0 0");
    }
}
