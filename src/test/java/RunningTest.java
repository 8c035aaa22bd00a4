/** Options, start, ticks, the order of taking, and workers: promises 10, 11, 12, 14 and 19. */
public final class RunningTest {
    private static final Check CHECK = new Check("RunningTest");
    private static final int NONE = SuiteRunner.NONE;

    public static void main(String[] args) {
        promise10Options();
        promise11Answers();
        promise11Dangling();
        promise11LeavesNothing();
        promise11RefusedLeavesAll();
        promise12Counts();
        promise14Running();
        orderOfTaking();
        needsAreWaitedFor();
        sixteenInOneTick();
        promise19Workers();
        modeClasses();
        CHECK.end();
    }

    private static void promise10Options() {
        SuiteRunner x = Words.withMethods("a", "b", "c", "d");
        CHECK.no("0 workers", x.options(0, false, true, false, false));
        CHECK.no("4 workers", x.options(4, false, true, false, false));
        CHECK.no("-1 workers", x.options(-1, true, false, true, true));
        x.start();
        x.tick(1);
        CHECK.due("one worker at first", x.report(1, Words.STATUS), Words.WAITING);
        x.tick(100);
        for (int workers = 1; workers <= 3; workers++) {
            CHECK.yes("workers " + workers, x.options(workers, false, true, false, false));
            x.start();
            x.tick(1);
            for (int w = 0; w < 4; w++) {
                CHECK.due("worker " + w + " of " + workers, x.worker(w), w < workers ? w : NONE);
            }
            x.tick(100);
        }
        x.options(1, false, true, false, false);
        x.provider(0, -1);
        x.trait(0, Words.PROVIDER, 0);
        x.start();
        x.tick(100);
        CHECK.due("a broken provider skips", x.report(0, Words.STATUS), Words.SKIPPED);
        x.options(1, false, true, true, false);
        x.start();
        x.tick(100);
        CHECK.due("or fails, if runs propagate", x.report(0, Words.STATUS), Words.FAILED);
        CHECK.due("without an invocation", x.report(0, Words.FAILS), 0);
    }

    private static void promise11Answers() {
        SuiteRunner x = Words.withMethods("a", "b");
        x.select(2, 0, 0);
        CHECK.due("none is selected", x.start(), NONE);
        x.select(1, 0, 0);
        CHECK.due("starts", x.start(), 0);
        CHECK.due("under way", x.start(), NONE);
        CHECK.due("waiting", x.report(0, Words.STATUS), Words.WAITING);
        CHECK.due("nothing is taken yet", x.worker(0), NONE);
        CHECK.due("no event yet", x.event(-1), 0);
        x.tick(100);
        x.needs(0, 1);
        x.needs(1, 0);
        CHECK.due("a circle", x.start(), 2);
        x.needsGroup(0, 0);
        CHECK.due("a need that dangles is told first", x.start(), 1);
        x.options(1, false, true, false, true);
        CHECK.due("unless these are ignored", x.start(), 2);
        CHECK.no("refused", x.running());
    }

    private static void promise11Dangling() {
        SuiteRunner x = new SuiteRunner();
        x.method(0, Words.name("a"));
        x.method(1, Words.name("b"));
        x.method(2, Words.name("c"));
        x.trait(2, Words.GROUPS, 5);
        x.needs(0, 1);
        x.needsGroup(1, 2);
        CHECK.due("all are there", x.start(), 0);
        x.tick(100);
        x.select(3, 0, 0);
        CHECK.due("no selected one is in the group", x.start(), 1);
        x.select(5, 0, 0);
        CHECK.due("the named one is not selected", x.start(), 1);
        x.select(4, 0, 0);
        CHECK.due("needs of one that is not selected do not count", x.start(), 0);
        x.tick(100);
        x.select(3, 0, 0);
        x.options(1, false, true, false, true);
        CHECK.due("ignored", x.start(), 0);
        CHECK.due("ticks", x.tick(100), 3);
        CHECK.due("0 waited for 1", x.report(0, Words.TAKEN), 2);
        x.options(1, false, true, false, false);
        x.select(15, 0, 0);
        x.trait(0, Words.GROUPS, 2);
        x.needsGroup(1, 0);
        x.needsGroup(1, 5);
        CHECK.due("each group named needs one", x.start(), 1);
        x.trait(2, Words.GROUPS, 32 + 5);
        CHECK.due("one method may be in all of them", x.start(), 0);
    }

    private static void promise11LeavesNothing() {
        SuiteRunner x = Words.withMethods("a", "b");
        x.method(1, Words.name("c"));
        x.configuration(Words.METHOD, false, 0, 1);
        x.trait(0, Words.BEHAVIOUR, 1);
        x.start();
        x.tick(100);
        CHECK.due("failed", x.report(0, Words.STATUS), Words.FAILED);
        CHECK.due("skipped", x.report(1, Words.STATUS), Words.SKIPPED);
        CHECK.due("passed", x.report(2, Words.STATUS), Words.PASSED);
        x.select(1, 0, 0);
        x.start();
        for (int what = 0; what < 7; what++) {
            CHECK.due("waiting, " + what, x.report(0, what), what == 0 ? Words.WAITING : what < 5 ? 0 : NONE);
            CHECK.due("not selected, " + what, x.report(2, what), what < 5 ? 0 : NONE);
        }
        CHECK.due("no events", x.event(-1), 0);
        CHECK.due("no latest event", x.event(0), NONE);
        x.tick(1);
        CHECK.due("the time began anew", x.report(0, Words.TAKEN), 1);
        CHECK.due("not blocked by the run before", x.report(0, Words.ENTERED), 1);
        x.tick(100);
        CHECK.due("the configuration's runs are counted anew", x.report(1, Words.STATUS), Words.SKIPPED);
    }

    private static void promise11RefusedLeavesAll() {
        SuiteRunner x = Words.withMethods("a", "b");
        x.start();
        x.tick(100);
        int events = x.event(-1);
        int latest = x.event(0);
        x.select(0, 0, 0);
        CHECK.due("none", x.start(), NONE);
        x.select(15, 0, 0);
        x.needs(0, 0);
        CHECK.due("circle", x.start(), 2);
        x.needsGroup(1, 0);
        CHECK.due("dangling", x.start(), 1);
        CHECK.due("events stay", x.event(-1), events);
        CHECK.due("the latest, too", x.event(0), latest);
        CHECK.due("status stays", x.report(0, Words.STATUS), Words.PASSED);
        CHECK.due("time stays", x.report(1, Words.ENDED), 3);
        CHECK.due("tick", x.tick(1), 0);
    }

    private static void promise12Counts() {
        SuiteRunner x = Words.withMethods("a");
        x.trait(0, Words.DURATION, 9);
        x.trait(0, Words.COUNT, 4);
        x.trait(0, Words.PROVIDER, 0);
        x.provider(0, 4);
        CHECK.due("-1 without a run", x.tick(-1), NONE);
        CHECK.due("101 without a run", x.tick(101), NONE);
        CHECK.due("100 without a run", x.tick(100), 0);
        x.start();
        CHECK.due("0", x.tick(0), 0);
        CHECK.due("-1", x.tick(-1), NONE);
        CHECK.due("101", x.tick(101), NONE);
        CHECK.due("lowest", x.tick(Integer.MIN_VALUE), NONE);
        CHECK.due("greatest", x.tick(Integer.MAX_VALUE), NONE);
        CHECK.due("no time has passed", x.event(-1), 0);
        CHECK.due("100", x.tick(100), 100);
        CHECK.due("44", x.tick(44), 44);
        CHECK.yes("still under way", x.running());
        CHECK.due("one more", x.tick(100), 1);
        CHECK.due("ended", x.report(0, Words.ENDED), 145);
        CHECK.due("entered", x.report(0, Words.ENTERED), 16);
        CHECK.due("over", x.tick(100), 0);
        CHECK.due("0 when over", x.tick(0), 0);
    }

    private static void promise14Running() {
        SuiteRunner x = Words.withMethods("a");
        CHECK.no("new", x.running());
        x.start();
        CHECK.yes("started", x.running());
        x.tick(1);
        CHECK.yes("first tick", x.running());
        x.tick(1);
        CHECK.no("over", x.running());
    }

    private static void orderOfTaking() {
        SuiteRunner x = Words.withMethods("b", "ab", "a", "aab", "a", "ba", "zzzzzzzz", "zzzzzzza");
        x.trait(6, Words.PRIORITY, -1);
        x.trait(7, Words.PRIORITY, -1);
        x.trait(2, Words.PRIORITY, 9);
        x.trait(3, Words.PRIORITY, -9);
        x.start();
        x.tick(100);
        int[] due = {3, 7, 6, 4, 1, 0, 5, 2};
        for (int i = 0; i < due.length; i++) {
            CHECK.due("taken as number " + i + ": " + due[i], x.report(due[i], Words.TAKEN), i + 1);
        }
        SuiteRunner z = Words.withMethods("a", "b", "c");
        z.trait(2, Words.PRIORITY, -1);
        z.trait(1, Words.PRIORITY, 1);
        z.trait(1, Words.PRIORITY, 0);
        z.trait(0, Words.PRIORITY, 1);
        z.start();
        z.tick(100);
        CHECK.due("-1 first", z.report(2, Words.TAKEN), 1);
        CHECK.due("1 last", z.report(0, Words.TAKEN), 3);
        SuiteRunner zero = Words.withMethods("b", "a");
        zero.trait(1, Words.PRIORITY, 0);
        zero.start();
        zero.tick(1);
        CHECK.due("at first the priority is 0", zero.worker(0), 1);
        zero.tick(100);
        zero.trait(1, Words.PRIORITY, 1);
        zero.start();
        zero.tick(1);
        CHECK.due("which comes before 1", zero.worker(0), 0);
        SuiteRunner y = Words.withMethods("a", "a", "a");
        y.start();
        y.tick(100);
        CHECK.due("equal ones by number", y.report(2, Words.TAKEN) * 10 + y.report(1, Words.TAKEN), 32);
    }

    private static void needsAreWaitedFor() {
        SuiteRunner x = Words.withMethods("a", "b", "c");
        x.options(3, false, true, false, false);
        x.trait(2, Words.DURATION, 4);
        x.trait(2, Words.GROUPS, 16);
        x.trait(0, Words.PRIORITY, -9);
        x.needsGroup(0, 4);
        x.start();
        x.tick(1);
        CHECK.due("0 waits though it comes first", x.report(0, Words.STATUS), Words.WAITING);
        CHECK.due("1 is worker 0's", x.worker(0), 1);
        CHECK.due("2 is worker 1's", x.worker(1), 2);
        x.tick(3);
        CHECK.due("worker 0 has none", x.worker(0), NONE);
        x.tick(1);
        CHECK.due("worker 0 takes it in the tick when 2 ends", x.worker(0), 0);
        CHECK.due("taken", x.report(0, Words.TAKEN), x.report(2, Words.ENDED));
        CHECK.due("rest", x.tick(100), 1);
    }

    private static void sixteenInOneTick() {
        SuiteRunner x = new SuiteRunner();
        x.provider(0, -1);
        for (int m = 0; m < 16; m++) {
            x.method(m % 4, Words.name("a"));
            x.trait(m, Words.PROVIDER, 0);
        }
        x.start();
        CHECK.due("a worker takes as long as it has none", x.tick(100), 1);
        for (int m = 0; m < 16; m++) {
            CHECK.due("skipped " + m, x.report(m, Words.STATUS), Words.SKIPPED);
        }
    }

    private static void promise19Workers() {
        SuiteRunner x = Words.withMethods("a", "b", "c", "d");
        x.options(2, false, true, false, false);
        x.trait(0, Words.DURATION, 3);
        x.start();
        CHECK.due("before a tick", x.worker(0), NONE);
        x.tick(1);
        CHECK.due("worker 0", x.worker(0), 0);
        CHECK.due("worker 1", x.worker(1), 1);
        CHECK.due("worker 2", x.worker(2), NONE);
        CHECK.due("worker -1", x.worker(-1), NONE);
        CHECK.due("worker 3", x.worker(3), NONE);
        CHECK.due("a great one", x.worker(Integer.MAX_VALUE), NONE);
        x.tick(1);
        CHECK.due("worker 0 goes on", x.worker(0), 0);
        CHECK.due("worker 1 takes the next", x.worker(1), 2);
        x.tick(1);
        CHECK.due("and the next", x.worker(1), 3);
        CHECK.due("then both end", x.tick(100), 1);
        CHECK.due("worker 0 has none", x.worker(0), NONE);
        CHECK.due("worker 1 has none", x.worker(1), NONE);
    }

    private static void modeClasses() {
        SuiteRunner x = Words.withMethods("a", "b");
        x.method(1, Words.name("c"));
        x.method(1, Words.name("d"));
        x.options(3, true, true, false, false);
        x.trait(0, Words.DURATION, 2);
        x.start();
        x.tick(1);
        CHECK.due("worker 0 has class 0", x.worker(0), 0);
        CHECK.due("worker 1 has class 1", x.worker(1), 2);
        CHECK.due("worker 2 finds none", x.worker(2), NONE);
        x.tick(1);
        CHECK.due("worker 1 stays in class 1", x.worker(1), 3);
        x.tick(1);
        CHECK.due("worker 0 goes on in class 0", x.worker(0), 1);
        CHECK.due("worker 1 has none", x.worker(1), NONE);
        CHECK.due("rest", x.tick(100), 1);
    }
}
