/** What invocations and methods come to, and what fails makes others be skipped: the terms of promises 12 and 18. */
public final class InvocationsTest {
    private static final Check CHECK = new Check("InvocationsTest");
    private static final int NONE = SuiteRunner.NONE;

    public static void main(String[] args) {
        results();
        behaviourGoesRoundAfterTen();
        percent();
        allSkipped();
        noneDue();
        skippedByNeeds();
        always();
        promise18Report();
        CHECK.end();
    }

    private static SuiteRunner ran(int behaviour, int wanted, int percent, int count) {
        SuiteRunner x = Words.withMethods("a");
        x.trait(0, Words.BEHAVIOUR, behaviour);
        x.trait(0, Words.WANTED, wanted);
        x.trait(0, Words.PERCENT, percent);
        x.trait(0, Words.COUNT, count);
        x.start();
        x.tick(100);
        return x;
    }

    private static void results() {
        int p = Words.PASSED;
        int f = Words.FAILED;
        int s = Words.SKIPPED;
        int[][] due = {{p, f, f, f, f, s, p, p}, {f, f, p, f, f, s, f, f}, {f, f, f, p, f, s, f, f}, {f, f, f, f, p, s, f, f}};
        for (int wanted = 0; wanted < 4; wanted++) {
            for (int deed = 0; deed < 8; deed++) {
                SuiteRunner x = ran(deed, wanted, 100, 1);
                String what = "deed " + deed + ", wanted " + wanted;
                int status = due[wanted][deed];
                CHECK.due(what, x.report(0, Words.STATUS), status);
                CHECK.due(what + ": passes", x.report(0, Words.PASSES), status == p ? 1 : 0);
                CHECK.due(what + ": fails", x.report(0, Words.FAILS), status == f ? 1 : 0);
                CHECK.due(what + ": skips", x.report(0, Words.SKIPS), status == s ? 1 : 0);
                CHECK.due(what + ": entered", x.report(0, Words.ENTERED), 1);
                CHECK.events(what, x, "1 enter 0 0", "2 end 0 " + (status - 2), "2 done 0 " + status, "2 over 0 0");
            }
        }
    }

    private static void behaviourGoesRoundAfterTen() {
        SuiteRunner x = Words.withMethods("a");
        x.trait(0, Words.COUNT, 4);
        x.trait(0, Words.PROVIDER, 2);
        x.provider(2, 4);
        // Invocation 0 fails, 9 does 5 (asks to be skipped), and so does, after ten, only 10 as 0 did.
        x.trait(0, Words.BEHAVIOUR, 1 | 5 << 27);
        x.start();
        x.tick(100);
        CHECK.due("entered", x.report(0, Words.ENTERED), 16);
        CHECK.due("fails", x.report(0, Words.FAILS), 2);
        CHECK.due("skips", x.report(0, Words.SKIPS), 1);
        CHECK.due("passes", x.report(0, Words.PASSES), 13);
        // From the latest one: over, done, end 15, enter 15, ..
        CHECK.due("invocation 15 entered", x.event(3), 1 + 128 * 15 + 2048 * 16);
        CHECK.due("invocation 10 failed", x.event(2 + 2 * 5), 2 + 128 * 2 + 2048 * 12);
        CHECK.due("invocation 9 was skipped", x.event(2 + 2 * 6), 2 + 128 * 3 + 2048 * 11);
    }

    private static void percent() {
        int oneOfFourFails = 1;
        CHECK.due("75 of 75", ran(oneOfFourFails, 0, 75, 4).report(0, 0), Words.PASSED);
        CHECK.due("75 of 76", ran(oneOfFourFails, 0, 76, 4).report(0, 0), Words.FAILED);
        int oneOfThreeFails = 1;
        CHECK.due("66.7 of 66", ran(oneOfThreeFails, 0, 66, 3).report(0, 0), Words.PASSED);
        CHECK.due("66.7 of 67", ran(oneOfThreeFails, 0, 67, 3).report(0, 0), Words.FAILED);
        CHECK.due("0 of 1", ran(1, 0, 1, 1).report(0, 0), Words.FAILED);
        CHECK.due("100 of 100", ran(0, 0, 100, 4).report(0, 0), Words.PASSED);
        int failSkipSkipPass = 1 | 5 << 3 | 5 << 6;
        CHECK.due("skips do not count: 50 of 50", ran(failSkipSkipPass, 0, 50, 4).report(0, 0), Words.PASSED);
        CHECK.due("skips do not count: 50 of 51", ran(failSkipSkipPass, 0, 51, 4).report(0, 0), Words.FAILED);
    }

    private static void allSkipped() {
        CHECK.due("all skip", ran(5 | 5 << 3, 0, 100, 2).report(0, 0), Words.SKIPPED);
        CHECK.due("one passes", ran(5, 0, 100, 2).report(0, 0), Words.PASSED);
        CHECK.due("one fails", ran(5 | 1 << 3, 0, 100, 2).report(0, 0), Words.FAILED);
    }

    private static void noneDue() {
        SuiteRunner x = Words.withMethods("a", "b");
        x.configuration(Words.METHOD, true, 0, 1);
        x.provider(3, 0);
        x.trait(0, Words.PROVIDER, 3);
        x.trait(1, Words.PROVIDER, 3);
        x.trait(0, Words.COUNT, 4);
        x.needs(1, 0);
        x.start();
        CHECK.due("ends when it is taken", x.tick(100), 1);
        CHECK.due("passed", x.report(0, Words.STATUS), Words.PASSED);
        CHECK.due("so the other passes, too", x.report(1, Words.STATUS), Words.PASSED);
        CHECK.events("none due", x, "1 done 0 3", "1 done 1 3", "1 over 0 0");
    }

    private static void skippedByNeeds() {
        SuiteRunner x = Words.withMethods("a", "b", "c", "d");
        x.method(1, Words.name("e"));
        x.configuration(Words.CLASS, true, 1, 0);
        x.configuration(Words.CLASS, false, 1, 0);
        x.configuration(Words.SUITE, true, 0, 0);
        x.trait(0, Words.BEHAVIOUR, 2);
        x.trait(3, Words.GROUPS, 1);
        x.trait(0, Words.GROUPS, 1);
        x.needs(1, 0);
        x.needs(2, 1);
        x.needsGroup(4, 0);
        x.start();
        x.tick(100);
        CHECK.due("failed", x.report(0, Words.STATUS), Words.FAILED);
        CHECK.due("its need failed", x.report(1, Words.STATUS), Words.SKIPPED);
        CHECK.due("its need was skipped", x.report(2, Words.STATUS), Words.SKIPPED);
        CHECK.due("needs nothing", x.report(3, Words.STATUS), Words.PASSED);
        CHECK.due("one of a group failed", x.report(4, Words.STATUS), Words.SKIPPED);
        CHECK.due("no invocation was skipped", x.report(1, Words.SKIPS), 0);
        CHECK.due("taken", x.report(1, Words.TAKEN), 2);
        CHECK.due("ended", x.report(1, Words.ENDED), 2);
        CHECK.events("class 1 has no turn, before or after", x, "1 conf 2 1", "1 enter 0 0", "2 end 0 2", "2 done 0 4",
            "2 done 1 5", "2 done 2 5", "2 enter 3 0", "3 end 3 1", "3 done 3 3", "3 done 4 5", "3 over 0 0");
    }

    private static void always() {
        SuiteRunner x = Words.withMethods("a", "b", "c");
        x.trait(0, Words.BEHAVIOUR, 1);
        x.needs(1, 0);
        x.trait(1, Words.ALWAYS, 1);
        x.needs(2, 1);
        x.start();
        x.tick(100);
        CHECK.due("runs all the same", x.report(1, Words.STATUS), Words.PASSED);
        CHECK.due("after it", x.report(1, Words.TAKEN), 2);
        CHECK.due("who needs only this one passes", x.report(2, Words.STATUS), Words.PASSED);
        x.configuration(Words.METHOD, false, 0, 1);
        x.start();
        x.tick(100);
        CHECK.due("ALWAYS does not help one that is blocked", x.report(1, Words.STATUS), Words.SKIPPED);
    }

    private static void promise18Report() {
        SuiteRunner x = Words.withMethods("a", "b", "c");
        for (int what = 0; what < 7; what++) {
            CHECK.due("before any run " + what, x.report(0, what), what < 5 ? 0 : NONE);
        }
        x.trait(2, Words.GROUPS, 1);
        x.select(15, 0, 1);
        x.trait(0, Words.COUNT, 3);
        x.trait(0, Words.DURATION, 2);
        x.trait(0, Words.BEHAVIOUR, 1 << 3 | 5 << 6);
        x.start();
        x.tick(4);
        int[] due = {Words.RUNNING, 1, 0, 0, 2, 1, NONE};
        for (int what = 0; what < 7; what++) {
            CHECK.due("running " + what, x.report(0, what), due[what]);
            CHECK.due("waiting " + what, x.report(1, what), what == 0 ? Words.WAITING : what < 5 ? 0 : NONE);
            CHECK.due("not selected " + what, x.report(2, what), what < 5 ? 0 : NONE);
        }
        x.tick(100);
        int[] over = {Words.FAILED, 1, 1, 1, 3, 1, 7};
        for (int what = 0; what < 7; what++) {
            CHECK.due("over " + what, x.report(0, what), over[what]);
        }
        CHECK.due("what 7", x.report(0, 7), NONE);
        CHECK.due("what -1", x.report(0, -1), NONE);
        CHECK.due("method 3", x.report(3, 0), NONE);
        CHECK.due("method -1", x.report(-1, 0), NONE);
        CHECK.due("method 16", x.report(16, 0), NONE);
        x.method(0, Words.name("d"));
        CHECK.due("declared after the run", x.report(3, Words.STATUS), 0);
        CHECK.due("declared after the run, taken", x.report(3, Words.TAKEN), NONE);
    }
}
