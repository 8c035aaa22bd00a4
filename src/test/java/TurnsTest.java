/** Which configurations run when, and what they block: the terms of promises 7 and 12. */
public final class TurnsTest {
    public static void main(String[] args) {
        Check.all(TurnsTest.class);
    }

    private static SuiteRunner twoClasses() {
        SuiteRunner x = Words.withMethods("a", "b");
        x.method(1, Words.name("c"));
        return x;
    }

    static void allOfThem() {
        SuiteRunner x = twoClasses();
        x.configuration(Words.METHOD, false, 0, 0);
        x.configuration(Words.METHOD, true, 0, 0);
        x.configuration(Words.CLASS, false, 0, 0);
        x.configuration(Words.CLASS, true, 0, 0);
        x.configuration(Words.SUITE, false, 0, 0);
        x.configuration(Words.SUITE, true, 0, 0);
        x.configuration(Words.CLASS, true, 1, 0);
        x.configuration(Words.METHOD, true, 0, 0);
        Words.run(x);
        Check.events("all", x, "1 conf 5 1", "1 conf 3 1", "1 conf 1 1", "1 conf 7 1", "1 enter 0 0",
            "2 end 0 1", "2 conf 0 1", "2 done 0 3", "2 conf 1 1", "2 conf 7 1", "2 enter 1 0",
            "3 end 1 1", "3 conf 0 1", "3 done 1 3", "3 conf 2 1", "3 conf 6 1", "3 enter 2 0",
            "4 end 2 1", "4 done 2 3", "4 conf 4 1", "4 over 0 0");
    }

    /** "CONFIGURATIONS of a kind run by their numbers, all of them": the eight of one kind, though the first fails. */
    static void eightOfAKind() {
        for (int level = 0; level < 3; level++) {
            SuiteRunner x = Words.withMethods("a");
            for (int c = 0; c < 8; c++) {
                x.configuration(level, true, 0, c % 7 == 0 ? 1 : 0);
            }
            Words.run(x);
            for (int c = 0; c < 8; c++) {
                int due = 8 * c + 128 * (c % 7 == 0 ? 2 : 1) + 2048;
                Check.due("level " + level + ", configuration " + c, x.event(x.event(-1) - 1 - c), due);
            }
            Check.due("skipped", x.report(0, Words.STATUS), Words.SKIPPED);
        }
    }

    static void suiteFails() {
        SuiteRunner x = twoClasses();
        x.configuration(Words.SUITE, true, 0, 1);
        x.configuration(Words.SUITE, true, 0, 0);
        x.configuration(Words.CLASS, true, 0, 0);
        x.configuration(Words.CLASS, false, 1, 0);
        x.configuration(Words.METHOD, true, 0, 0);
        x.configuration(Words.SUITE, false, 0, 0);
        Words.run(x);
        Check.events("suite fails", x, "1 conf 0 2", "1 conf 1 1", "1 conf 2 1", "1 done 0 5", "1 done 1 5",
            "1 done 2 5", "1 conf 3 1", "1 conf 5 1", "1 over 0 0");
    }

    static void classFails() {
        SuiteRunner x = twoClasses();
        x.configuration(Words.CLASS, true, 0, 1);
        Words.run(x);
        Check.events("class fails", x, "1 conf 0 2", "1 done 0 5", "1 done 1 5", "1 enter 2 0", "2 end 2 1",
            "2 done 2 3", "2 over 0 0");
    }

    static void afterMethodFails() {
        SuiteRunner x = twoClasses();
        x.trait(0, Words.COUNT, 2);
        x.configuration(Words.METHOD, false, 0, 1);
        Words.run(x);
        Check.events("after method fails", x, "1 enter 0 0", "2 end 0 1", "2 conf 0 2", "2 end 0 3", "2 done 0 3",
            "2 done 1 5", "2 enter 2 0", "3 end 2 1", "3 done 2 3", "3 over 0 0");
        Check.report("one PASS, one SKIPPED", x, 0, Words.PASSED, 1, 0, 1, 1, 1, 2);
    }

    static void beforeMethodFails() {
        SuiteRunner x = Words.withMethods("a", "b");
        x.trait(0, Words.COUNT, 2);
        x.configuration(Words.METHOD, true, 0, 1);
        x.configuration(Words.METHOD, true, 0, 0);
        x.configuration(Words.METHOD, false, 0, 0);
        Words.run(x);
        Check.events("before method fails", x, "1 conf 0 2", "1 conf 1 1", "1 end 0 3", "1 end 0 3", "1 done 0 5",
            "1 done 1 5", "1 over 0 0");
        Check.report("two SKIPPED", x, 0, Words.SKIPPED, 0, 0, 2, 0, 1, 1);
        Check.report("none begun", x, 1, Words.SKIPPED, 0, 0, 0, 0, 1, 1);
    }

    /** AFTER of CLASS has failed when its class has ended: it blocks no one else. */
    static void afterClassFails() {
        SuiteRunner x = twoClasses();
        x.configuration(Words.CLASS, false, 0, 1);
        Words.run(x);
        Check.due("class 1 runs", x.report(2, Words.STATUS), Words.PASSED);
    }

    static void policyNotToSkip() {
        SuiteRunner x = Words.withMethods("a");
        x.options(1, false, false, false, false);
        x.configuration(Words.SUITE, true, 0, -1);
        x.configuration(Words.CLASS, true, 0, -1);
        x.configuration(Words.METHOD, true, 0, -1);
        x.configuration(Words.METHOD, false, 0, -1);
        x.configuration(Words.CLASS, false, 0, -1);
        x.configuration(Words.SUITE, false, 0, -1);
        x.trait(0, Words.COUNT, 2);
        Words.run(x);
        Check.events("not to skip", x, "1 conf 0 2", "1 conf 1 2", "1 conf 2 2", "1 enter 0 0", "2 end 0 1", "2 conf 3 2",
            "2 conf 2 2", "2 enter 0 1", "3 end 0 1", "3 conf 3 2", "3 done 0 3", "3 conf 4 2", "3 conf 5 2", "3 over 0 0");
    }

    /** "The k-th run fails if behaviour >> k % 30 & 1 is 1": bits 0 and 29, then round again; 30 and 31 are never looked at. */
    static void failsByItsBits() {
        int[] behaviours = {1, 1 << 1, 1 << 28, 1 << 29, 3 << 30, 1 | 1 << 29 | 3 << 30};
        for (int behaviour : behaviours) {
            SuiteRunner x = new SuiteRunner();
            x.options(1, false, false, false, false);
            x.provider(0, 4);
            for (int m = 0; m < 4; m++) {
                x.method(0, Words.name("a"));
                x.trait(m, Words.COUNT, 4);
                x.trait(m, Words.PROVIDER, 0);
            }
            x.configuration(Words.METHOD, true, 0, behaviour);
            x.start();
            for (int k = 0; k < 64; k++) {
                x.tick(1);
                int bit = behaviour >> k % 30 & 1;
                Check.due(behaviour + " at run " + k, x.event(1), 128 * (1 + bit) + 2048 * (k + 1));
            }
        }
    }

    /** Runs are counted for each configuration by itself, and anew in each run of the framework. */
    static void runsAreCountedApartAndAnew() {
        SuiteRunner x = Words.withMethods("a");
        x.options(1, false, false, false, false);
        x.trait(0, Words.COUNT, 2);
        x.configuration(Words.METHOD, true, 0, 2);
        x.configuration(Words.METHOD, false, 0, 1);
        for (int i = 0; i < 3; i++) {
            Words.run(x);
            Check.events("run " + i, x, "1 conf 0 1", "1 enter 0 0", "2 end 0 1", "2 conf 1 2", "2 conf 0 2", "2 enter 0 1",
                "3 end 0 1", "3 conf 1 1", "3 done 0 3", "3 over 0 0");
        }
    }

    static void afterClassOfTheLastSelected() {
        SuiteRunner x = twoClasses();
        x.method(0, Words.name("d"));
        x.configuration(Words.CLASS, false, 0, 1);
        x.trait(3, Words.GROUPS, 1);
        x.select(15, 0, 1);
        Words.run(x);
        Check.events("of the selected ones", x, "1 enter 0 0", "2 end 0 1", "2 done 0 3", "2 enter 1 0", "3 end 1 1",
            "3 done 1 3", "3 conf 0 2", "3 enter 2 0", "4 end 2 1", "4 done 2 3", "4 over 0 0");
    }

    static void afterClassWhenTheFirstEndsLast() {
        SuiteRunner x = new SuiteRunner();
        x.method(0, Words.name("z"));
        x.method(0, Words.name("a"));
        x.method(1, Words.name("b"));
        x.configuration(Words.CLASS, false, 0, 0);
        x.configuration(Words.CLASS, false, 1, 0);
        Words.run(x);
        Check.events("when method 0 ends last", x, "1 enter 1 0", "2 end 1 1", "2 done 1 3", "2 enter 2 0", "3 end 2 1",
            "3 done 2 3", "3 conf 1 1", "3 enter 0 0", "4 end 0 1", "4 done 0 3", "4 conf 0 1", "4 over 0 0");
    }

    /** The last one to end was skipped by its need, but another had given the class its turn. */
    static void afterClassWhenTheLastIsSkipped() {
        SuiteRunner x = Words.withMethods("a", "b");
        x.trait(0, Words.BEHAVIOUR, 1);
        x.needs(1, 0);
        x.configuration(Words.CLASS, false, 0, 0);
        Words.run(x);
        Check.events("skipped last", x, "1 enter 0 0", "2 end 0 2", "2 done 0 4", "2 done 1 5", "2 conf 0 1", "2 over 0 0");
    }

    /** BEFORE has its turn once, though a class has many methods, and none is needed for AFTER to run. */
    static void aTurnIsHadOnce() {
        SuiteRunner x = Words.withMethods("a", "b", "c");
        x.configuration(Words.CLASS, true, 0, 0);
        x.configuration(Words.SUITE, true, 0, 0);
        Words.run(x);
        Check.due("two and nine and one", x.event(-1), 2 + 9 + 1);
        SuiteRunner y = Words.withMethods("a");
        y.configuration(Words.CLASS, false, 0, 0);
        y.configuration(Words.SUITE, false, 0, 0);
        Words.run(y);
        Check.events("without any BEFORE", y, "1 enter 0 0", "2 end 0 1", "2 done 0 3", "2 conf 0 1", "2 conf 1 1", "2 over 0 0");
    }

    static void turnsComeAnew() {
        SuiteRunner x = Words.withMethods("a");
        x.configuration(Words.CLASS, true, 0, 0);
        x.configuration(Words.SUITE, true, 0, 0);
        x.configuration(Words.METHOD, true, 0, 1);
        for (int i = 0; i < 2; i++) {
            Words.run(x);
            Check.events("run " + i, x, "1 conf 1 1", "1 conf 0 1", "1 conf 2 2", "1 end 0 3", "1 done 0 5", "1 over 0 0");
            Check.due("skips are counted anew", x.report(0, Words.SKIPS), 1);
        }
    }

    /** A failure blocks in this run alone: a configuration that fails at its second run only does not block the next run. */
    static void blockedInThisRunAlone() {
        SuiteRunner x = Words.withMethods("a", "b");
        x.configuration(Words.METHOD, true, 0, 2);
        Words.run(x);
        Check.due("the second is blocked", x.report(1, Words.STATUS), Words.SKIPPED);
        Words.run(x);
        Check.due("the first is not", x.report(0, Words.STATUS), Words.PASSED);
    }

    static void failuresAddUp() {
        SuiteRunner x = Words.withMethods("a", "c");
        x.method(1, Words.name("b"));
        x.configuration(Words.CLASS, true, 0, 1);
        x.configuration(Words.CLASS, true, 1, 1);
        Words.run(x);
        Check.events("class 0 stays blocked", x, "1 conf 0 2", "1 done 0 5", "1 conf 1 2", "1 done 2 5", "1 done 1 5", "1 over 0 0");
    }

    static void workersByNumber() {
        SuiteRunner x = Words.withMethods("a", "b", "c", "d");
        x.options(2, false, true, false, false);
        x.configuration(Words.METHOD, true, 0, 4);
        x.configuration(Words.METHOD, false, 0, 0);
        x.trait(1, Words.COUNT, 2);
        Words.run(x);
        // Worker 1 begins its second invocation before worker 0 takes anew: the third run of 0 fails there.
        Check.events("workers", x, "1 conf 0 1", "1 enter 0 0", "1 conf 0 1", "1 enter 1 0",
            "2 end 0 1", "2 conf 1 1", "2 done 0 3", "2 end 1 1", "2 conf 1 1", "2 conf 0 2", "2 end 1 3", "2 done 1 3",
            "2 done 2 5", "2 done 3 5", "2 over 0 0");
    }

    static void oneThatWasEnteredHasItsResultThoughItIsBlocked() {
        SuiteRunner x = twoClasses();
        x.options(3, false, true, false, false);
        x.configuration(Words.METHOD, false, 0, 1);
        Words.run(x);
        Check.events("entered", x, "1 enter 0 0", "1 enter 1 0", "1 enter 2 0", "2 end 0 1", "2 conf 0 2", "2 done 0 3",
            "2 end 1 1", "2 conf 0 1", "2 done 1 3", "2 end 2 1", "2 done 2 3", "2 over 0 0");
    }
}
