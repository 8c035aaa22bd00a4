/** Which configurations run when, what they block, and the events: promises 7, 12 and 20. */
public final class ConfigurationsTest {
    private static final Check CHECK = new Check("ConfigurationsTest");
    private static final int NONE = SuiteRunner.NONE;

    public static void main(String[] args) {
        allOfThem();
        suiteFails();
        classFails();
        afterMethodFails();
        beforeMethodFails();
        policyNotToSkip();
        failsByItsBits();
        afterClassOfTheLast();
        afterClassOfTheFirst();
        turnsComeAnew();
        failuresAddUp();
        suiteClassMeansNothing();
        brokenProviderHadItsTurn();
        workersByNumber();
        promise20Event();
        CHECK.end();
    }

    private static SuiteRunner twoClasses() {
        SuiteRunner x = Words.withMethods("a", "b");
        x.method(1, Words.name("c"));
        return x;
    }

    private static void run(SuiteRunner x) {
        x.start();
        x.tick(100);
    }

    private static void allOfThem() {
        SuiteRunner x = twoClasses();
        x.configuration(Words.METHOD, false, 0, 0);
        x.configuration(Words.METHOD, true, 0, 0);
        x.configuration(Words.CLASS, false, 0, 0);
        x.configuration(Words.CLASS, true, 0, 0);
        x.configuration(Words.SUITE, false, 0, 0);
        x.configuration(Words.SUITE, true, 0, 0);
        x.configuration(Words.CLASS, true, 1, 0);
        x.configuration(Words.METHOD, true, 0, 0);
        run(x);
        CHECK.events("all", x, "1 conf 5 1", "1 conf 3 1", "1 conf 1 1", "1 conf 7 1", "1 enter 0 0",
            "2 end 0 1", "2 conf 0 1", "2 done 0 3", "2 conf 1 1", "2 conf 7 1", "2 enter 1 0",
            "3 end 1 1", "3 conf 0 1", "3 done 1 3", "3 conf 2 1", "3 conf 6 1", "3 enter 2 0",
            "4 end 2 1", "4 done 2 3", "4 conf 4 1", "4 over 0 0");
    }

    private static void suiteFails() {
        SuiteRunner x = twoClasses();
        x.configuration(Words.SUITE, true, 0, 1);
        x.configuration(Words.SUITE, true, 0, 0);
        x.configuration(Words.CLASS, true, 0, 0);
        x.configuration(Words.CLASS, false, 1, 0);
        x.configuration(Words.METHOD, true, 0, 0);
        x.configuration(Words.SUITE, false, 0, 0);
        run(x);
        CHECK.events("suite fails", x, "1 conf 0 2", "1 conf 1 1", "1 conf 2 1", "1 done 0 5", "1 done 1 5",
            "1 done 2 5", "1 conf 3 1", "1 conf 5 1", "1 over 0 0");
    }

    private static void classFails() {
        SuiteRunner x = twoClasses();
        x.configuration(Words.CLASS, true, 0, 1);
        run(x);
        CHECK.events("class fails", x, "1 conf 0 2", "1 done 0 5", "1 done 1 5", "1 enter 2 0", "2 end 2 1",
            "2 done 2 3", "2 over 0 0");
    }

    private static void afterMethodFails() {
        SuiteRunner x = twoClasses();
        x.trait(0, Words.COUNT, 2);
        x.configuration(Words.METHOD, false, 0, 1);
        run(x);
        CHECK.events("after method fails", x, "1 enter 0 0", "2 end 0 1", "2 conf 0 2", "2 end 0 3", "2 done 0 3",
            "2 done 1 5", "2 enter 2 0", "3 end 2 1", "3 done 2 3", "3 over 0 0");
        CHECK.due("entered", x.report(0, Words.ENTERED), 1);
        CHECK.due("skips", x.report(0, Words.SKIPS), 1);
    }

    private static void beforeMethodFails() {
        SuiteRunner x = Words.withMethods("a", "b");
        x.trait(0, Words.COUNT, 2);
        x.configuration(Words.METHOD, true, 0, 1);
        x.configuration(Words.METHOD, true, 0, 0);
        x.configuration(Words.METHOD, false, 0, 0);
        run(x);
        CHECK.events("before method fails", x, "1 conf 0 2", "1 conf 1 1", "1 end 0 3", "1 end 0 3", "1 done 0 5",
            "1 done 1 5", "1 over 0 0");
        CHECK.due("skips of 0", x.report(0, Words.SKIPS), 2);
        CHECK.due("skips of 1", x.report(1, Words.SKIPS), 0);
        CHECK.due("entered", x.report(0, Words.ENTERED), 0);
    }

    private static void policyNotToSkip() {
        SuiteRunner x = Words.withMethods("a");
        x.options(1, false, false, false, false);
        x.configuration(Words.SUITE, true, 0, -1);
        x.configuration(Words.CLASS, true, 0, -1);
        x.configuration(Words.METHOD, true, 0, -1);
        x.configuration(Words.METHOD, false, 0, -1);
        x.configuration(Words.CLASS, false, 0, -1);
        x.configuration(Words.SUITE, false, 0, -1);
        x.trait(0, Words.COUNT, 2);
        run(x);
        CHECK.events("not to skip", x, "1 conf 0 2", "1 conf 1 2", "1 conf 2 2", "1 enter 0 0", "2 end 0 1", "2 conf 3 2",
            "2 conf 2 2", "2 enter 0 1", "3 end 0 1", "3 conf 3 2", "3 done 0 3", "3 conf 4 2", "3 conf 5 2", "3 over 0 0");
    }

    private static void failsByItsBits() {
        SuiteRunner x = new SuiteRunner();
        x.options(1, false, false, false, false);
        x.provider(0, 4);
        for (int m = 0; m < 3; m++) {
            x.method(0, Words.name("a"));
            x.trait(m, Words.COUNT, 4);
            x.trait(m, Words.PROVIDER, 0);
        }
        // Runs 1 and 29 fail, hence 31 too; bit 31 (of a negative number) is never looked at.
        x.configuration(Words.METHOD, true, 0, 1 << 1 | 1 << 29 | 1 << 31);
        x.start();
        for (int k = 0; k < 48; k++) {
            x.tick(1);
            CHECK.due("run " + k, x.event(1), 128 * (k == 1 || k == 29 || k == 31 ? 2 : 1) + 2048 * (k + 1));
        }
        x.tick(1);
        run(x);
        CHECK.due("counted anew in the next run", x.event(-1), 48 * 3 + 3 + 1);
        x.start();
        x.tick(1);
        CHECK.due("its run 0", x.event(1), 128 + 2048);
        x.tick(1);
        CHECK.due("its run 1", x.event(1), 256 + 4096);
    }

    private static void afterClassOfTheLast() {
        SuiteRunner x = twoClasses();
        x.method(0, Words.name("d"));
        x.configuration(Words.CLASS, false, 0, 1);
        x.trait(3, Words.GROUPS, 1);
        x.select(15, 0, 1);
        run(x);
        CHECK.events("of the selected ones", x, "1 enter 0 0", "2 end 0 1", "2 done 0 3", "2 enter 1 0", "3 end 1 1",
            "3 done 1 3", "3 conf 0 2", "3 enter 2 0", "4 end 2 1", "4 done 2 3", "4 over 0 0");
    }

    private static void afterClassOfTheFirst() {
        SuiteRunner x = new SuiteRunner();
        x.method(0, Words.name("z"));
        x.method(0, Words.name("a"));
        x.method(1, Words.name("b"));
        x.configuration(Words.CLASS, false, 0, 0);
        x.configuration(Words.CLASS, false, 1, 0);
        run(x);
        CHECK.events("when method 0 ends last", x, "1 enter 1 0", "2 end 1 1", "2 done 1 3", "2 enter 2 0", "3 end 2 1",
            "3 done 2 3", "3 conf 1 1", "3 enter 0 0", "4 end 0 1", "4 done 0 3", "4 conf 0 1", "4 over 0 0");
    }

    private static void turnsComeAnew() {
        SuiteRunner x = Words.withMethods("a");
        x.configuration(Words.CLASS, true, 0, 0);
        x.configuration(Words.SUITE, true, 0, 0);
        x.configuration(Words.METHOD, true, 0, 1);
        for (int i = 0; i < 2; i++) {
            run(x);
            CHECK.events("run " + i, x, "1 conf 1 1", "1 conf 0 1", "1 conf 2 2", "1 end 0 3", "1 done 0 5", "1 over 0 0");
            CHECK.due("skips are counted anew", x.report(0, Words.SKIPS), 1);
        }
    }

    private static void failuresAddUp() {
        SuiteRunner x = Words.withMethods("a", "c");
        x.method(1, Words.name("b"));
        x.configuration(Words.CLASS, true, 0, 1);
        x.configuration(Words.CLASS, true, 1, 1);
        run(x);
        CHECK.events("class 0 stays blocked", x, "1 conf 0 2", "1 done 0 5", "1 conf 1 2", "1 done 2 5", "1 done 1 5", "1 over 0 0");
    }

    private static void suiteClassMeansNothing() {
        SuiteRunner x = Words.withMethods("a");
        x.configuration(Words.SUITE, true, 3, 1);
        x.configuration(Words.SUITE, false, 2, 0);
        x.configuration(Words.CLASS, true, 3, 0);
        x.configuration(Words.METHOD, true, 3, 0);
        run(x);
        CHECK.events("suite", x, "1 conf 0 2", "1 done 0 5", "1 conf 1 1", "1 over 0 0");
    }

    private static void brokenProviderHadItsTurn() {
        SuiteRunner x = Words.withMethods("a");
        x.configuration(Words.CLASS, true, 0, 0);
        x.configuration(Words.METHOD, true, 0, 0);
        x.configuration(Words.CLASS, false, 0, 0);
        x.provider(0, -1);
        x.trait(0, Words.PROVIDER, 0);
        x.options(1, false, true, true, false);
        run(x);
        CHECK.events("broken", x, "1 conf 0 1", "1 done 0 4", "1 conf 2 1", "1 over 0 0");
        SuiteRunner y = Words.withMethods("a");
        y.configuration(Words.CLASS, true, 0, 1);
        y.provider(0, -1);
        y.trait(0, Words.PROVIDER, 0);
        y.options(1, false, true, true, false);
        run(y);
        CHECK.due("blocked is looked at first", y.report(0, Words.STATUS), Words.SKIPPED);
    }

    private static void workersByNumber() {
        SuiteRunner x = Words.withMethods("a", "b", "c", "d");
        x.options(2, false, true, false, false);
        x.configuration(Words.METHOD, true, 0, 4);
        x.configuration(Words.METHOD, false, 0, 0);
        x.trait(1, Words.COUNT, 2);
        x.start();
        x.tick(100);
        // Worker 1 begins its second invocation before worker 0 takes anew: the third run of 0 fails there.
        CHECK.events("workers", x, "1 conf 0 1", "1 enter 0 0", "1 conf 0 1", "1 enter 1 0",
            "2 end 0 1", "2 conf 1 1", "2 done 0 3", "2 end 1 1", "2 conf 1 1", "2 conf 0 2", "2 end 1 3", "2 done 1 3",
            "2 done 2 5", "2 done 3 5", "2 over 0 0");
        SuiteRunner y = twoClasses();
        y.options(3, false, true, false, false);
        y.configuration(Words.METHOD, false, 0, 1);
        y.start();
        y.tick(100);
        CHECK.events("one that was entered has its result though it is blocked", y, "1 enter 0 0", "1 enter 1 0", "1 enter 2 0",
            "2 end 0 1", "2 conf 0 2", "2 done 0 3", "2 end 1 1", "2 conf 0 1", "2 done 1 3", "2 end 2 1", "2 done 2 3",
            "2 over 0 0");
    }

    private static void promise20Event() {
        SuiteRunner x = new SuiteRunner();
        for (int m = 0; m < 16; m++) {
            x.method(0, Words.name("a"));
            x.trait(m, Words.COUNT, 2);
        }
        x.start();
        CHECK.due("none yet", x.event(0), NONE);
        CHECK.due("how many: none", x.event(-1), 0);
        x.tick(1);
        CHECK.due("the first", x.event(0), 1 + 2048);
        CHECK.due("no second", x.event(1), NONE);
        x.tick(100);
        CHECK.due("how many", x.event(-1), 16 * 5 + 1);
        CHECK.due("over", x.event(0), 4 + 2048 * 33);
        CHECK.due("done", x.event(1), 3 + 8 * 15 + 128 * 3 + 2048 * 33);
        CHECK.due("end", x.event(2), 2 + 8 * 15 + 128 + 2048 * 33);
        CHECK.due("enter", x.event(3), 1 + 8 * 15 + 128 + 2048 * 32);
        // The 18th event (from 0: 17) is 63rd latest: method 3's third one.
        CHECK.due("63rd latest", x.event(63), 1 + 8 * 3 + 128 + 2048 * 8);
        CHECK.due("64th latest", x.event(64), NONE);
        CHECK.due("-2", x.event(-2), NONE);
        CHECK.due("lowest", x.event(Integer.MIN_VALUE), NONE);
        CHECK.due("greatest", x.event(Integer.MAX_VALUE), NONE);
        x.start();
        CHECK.due("none of the run before", x.event(0), NONE);
    }
}
