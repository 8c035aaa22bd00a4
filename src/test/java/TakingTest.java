/** Which method is taken, when, and what becomes of it before its first invocation: the terms of promise 12. */
public final class TakingTest {
    private static final int NONE = SuiteRunner.NONE;

    public static void main(String[] args) {
        Check.all(TakingTest.class);
    }

    /** The methods are taken in this order, one a tick. */
    private static void takenInOrder(String what, SuiteRunner x, int... order) {
        Words.run(x);
        for (int i = 0; i < order.length; i++) {
            Check.due(what + ": method " + order[i], x.report(order[i], Words.TAKEN), i + 1);
        }
    }

    static void theLeastPriorityFirst() {
        SuiteRunner x = Words.withMethods("a", "b", "c", "d", "e");
        int[] priorities = {9, 8, 0, -8, -9};
        for (int m = 0; m < 5; m++) {
            x.trait(m, Words.PRIORITY, priorities[m]);
        }
        takenInOrder("by priority", x, 4, 3, 2, 1, 0);
    }

    static void ofTheseTheLeastName() {
        takenInOrder("a letter", Words.withMethods("b", "z", "a"), 2, 0, 1);
        takenInOrder("a name that the other begins with", Words.withMethods("aaa", "aa", "a"), 2, 1, 0);
        takenInOrder("a beginning comes before, whatever follows", Words.withMethods("b", "az", "aza", "a"), 3, 1, 2, 0);
        takenInOrder("the first letter counts most", Words.withMethods("ba", "ab"), 1, 0);
        takenInOrder("not the length", Words.withMethods("b", "aaaaaaaa"), 1, 0);
    }

    static void theLastOfEightLetters() {
        takenInOrder("the eighth", Words.withMethods("zzzzzzzb", "zzzzzzza"), 1, 0);
        takenInOrder("seven and eight", Words.withMethods("aaaaaaaa", "aaaaaaa"), 1, 0);
        takenInOrder("the first of eight", Words.withMethods("baaaaaaa", "azzzzzzz"), 1, 0);
        takenInOrder("all of them", Words.withMethods("zzzzzzzz", "zzzzzzzz", "zzzzzzz"), 2, 0, 1);
    }

    static void ofTheseTheLeastNumber() {
        takenInOrder("equal ones", Story.methods(16).told(), 0, 1, 2, 3, 4, 5, 6, 7, 8, 9, 10, 11, 12, 13, 14, 15);
    }

    static void priorityThenNameThenNumber() {
        SuiteRunner x = Words.withMethods("b", "ab", "a", "aab", "a", "ba", "zzzzzzzz", "zzzzzzza");
        x.trait(6, Words.PRIORITY, -1);
        x.trait(7, Words.PRIORITY, -1);
        x.trait(2, Words.PRIORITY, 9);
        x.trait(3, Words.PRIORITY, -9);
        takenInOrder("all three", x, 3, 7, 6, 4, 1, 0, 5, 2);
    }

    static void needsAreWaitedFor() {
        SuiteRunner x = Words.withMethods("a", "b", "c");
        x.options(3, false, true, false, false);
        x.trait(2, Words.DURATION, 4);
        x.trait(2, Words.GROUPS, 16);
        x.trait(0, Words.PRIORITY, -9);
        x.needsGroup(0, 4);
        x.start();
        x.tick(1);
        Check.due("0 waits though it comes first", x.report(0, Words.STATUS), Words.WAITING);
        Check.due("1 is worker 0's", x.worker(0), 1);
        Check.due("2 is worker 1's", x.worker(1), 2);
        x.tick(3);
        Check.due("worker 0 has none", x.worker(0), NONE);
        x.tick(1);
        Check.due("worker 0 takes it in the tick when 2 ends", x.worker(0), 0);
        Check.due("taken", x.report(0, Words.TAKEN), x.report(2, Words.ENDED));
        Check.due("rest", x.tick(100), 1);
    }

    static void allNeedsAreWaitedFor() {
        SuiteRunner x = Words.withMethods("a", "b", "c", "d");
        x.options(3, false, true, false, false);
        x.trait(1, Words.DURATION, 2);
        x.trait(2, Words.DURATION, 3);
        x.trait(3, Words.DURATION, 4);
        for (int n = 1; n < 4; n++) {
            x.needs(0, n);
        }
        Words.run(x);
        Check.due("the last one", x.report(0, Words.TAKEN), 5);
    }

    /** Fifteen have to end before the first can be taken, each waiting for the next. */
    static void aChainOf16() {
        SuiteRunner x = Story.methods(16).told();
        x.options(3, false, true, false, false);
        for (int m = 0; m < 15; m++) {
            x.needs(m, m + 1);
        }
        takenInOrder("a chain", x, 15, 14, 13, 12, 11, 10, 9, 8, 7, 6, 5, 4, 3, 2, 1, 0);
    }

    /** Without a failure each need is taken a tick later; with one all that follow are skipped in the same tick. */
    static void aChainOf16Skipped() {
        SuiteRunner x = Story.methods(16).told();
        for (int m = 0; m < 15; m++) {
            x.needs(m, m + 1);
        }
        x.trait(15, Words.BEHAVIOUR, 1);
        x.start();
        Check.due("ticks", x.tick(100), 2);
        for (int m = 0; m < 15; m++) {
            Check.report("skipped", x, m, Words.SKIPPED, 0, 0, 0, 0, 2, 2);
        }
    }

    static void modeClasses() {
        SuiteRunner x = Words.withMethods("a", "b");
        x.method(1, Words.name("c"));
        x.method(1, Words.name("d"));
        x.options(3, true, true, false, false);
        x.trait(0, Words.DURATION, 2);
        x.start();
        int[][] due = {{0, 2, NONE}, {0, 3, NONE}, {1, NONE, NONE}};
        for (int[] each : due) {
            x.tick(1);
            for (int w = 0; w < 3; w++) {
                Check.due("worker " + w, x.worker(w), each[w]);
            }
        }
        Check.due("rest", x.tick(100), 1);
    }

    /** The class of a method that has ended in this tick is free for whoever comes first. */
    static void modeClassesByAnotherWorker() {
        SuiteRunner x = new SuiteRunner();
        x.method(0, Words.name("a"));
        x.method(1, Words.name("b"));
        x.method(1, Words.name("c"));
        x.options(2, true, true, false, false);
        x.start();
        x.tick(2);
        Check.due("worker 0 takes it from class 1", x.worker(0), 2);
        Check.due("worker 1 has none", x.worker(1), NONE);
    }

    static void modeClassesHoldsForAllFour() {
        for (int cls = 0; cls < 4; cls++) {
            SuiteRunner x = new SuiteRunner();
            x.method(cls, Words.name("a"));
            x.method(cls, Words.name("b"));
            x.options(3, true, true, false, false);
            x.start();
            x.tick(1);
            Check.due("one of class " + cls, x.worker(1), NONE);
        }
    }

    static void skippedByNeeds() {
        SuiteRunner x = Words.withMethods("a", "b", "c", "d");
        x.method(1, Words.name("e"));
        x.configuration(Words.CLASS, true, 1, 0);
        x.configuration(Words.CLASS, false, 1, 0);
        x.configuration(Words.SUITE, true, 0, 0);
        x.trait(0, Words.BEHAVIOUR, 2);
        x.trait(3, Words.GROUPS, 1);
        x.trait(0, Words.GROUPS, 1);
        x.needs(1, 0);
        x.needs(2, 1);
        x.needsGroup(4, 0);
        Words.run(x);
        Check.report("failed", x, 0, Words.FAILED, 0, 1, 0, 1, 1, 2);
        Check.report("its need failed", x, 1, Words.SKIPPED, 0, 0, 0, 0, 2, 2);
        Check.report("its need was skipped", x, 2, Words.SKIPPED, 0, 0, 0, 0, 2, 2);
        Check.report("needs nothing", x, 3, Words.PASSED, 1, 0, 0, 1, 2, 3);
        Check.report("one of a group failed", x, 4, Words.SKIPPED, 0, 0, 0, 0, 3, 3);
        Check.events("class 1 has no turn, before or after", x, "1 conf 2 1", "1 enter 0 0", "2 end 0 2", "2 done 0 4",
            "2 done 1 5", "2 done 2 5", "2 enter 3 0", "3 end 3 1", "3 done 3 3", "3 done 4 5", "3 over 0 0");
    }

    static void always() {
        SuiteRunner x = Words.withMethods("a", "b", "c");
        x.trait(0, Words.BEHAVIOUR, 1);
        x.needs(1, 0);
        x.trait(1, Words.ALWAYS, 1);
        x.needs(2, 1);
        Words.run(x);
        Check.report("runs all the same", x, 1, Words.PASSED, 1, 0, 0, 1, 2, 3);
        Check.due("who needs only this one passes", x.report(2, Words.STATUS), Words.PASSED);
        x.configuration(Words.METHOD, false, 0, 1);
        Words.run(x);
        Check.due("ALWAYS does not help one that is blocked", x.report(1, Words.STATUS), Words.SKIPPED);
    }

    /** 4.: after the configurations, and only if it is not blocked. */
    static void aBrokenProvider() {
        SuiteRunner x = Words.withMethods("a");
        x.configuration(Words.CLASS, true, 0, 0);
        x.configuration(Words.METHOD, true, 0, 0);
        x.configuration(Words.CLASS, false, 0, 0);
        x.provider(0, -1);
        x.trait(0, Words.PROVIDER, 0);
        x.options(1, false, true, true, false);
        Words.run(x);
        Check.events("broken", x, "1 conf 0 1", "1 done 0 4", "1 conf 2 1", "1 over 0 0");
        x.configuration(Words.CLASS, true, 0, 1);
        Words.run(x);
        Check.due("blocked is looked at first", x.report(0, Words.STATUS), Words.SKIPPED);
    }

    /** 5.: a provider without rows is not broken, and the method ends at once. */
    static void noneDue() {
        SuiteRunner x = Words.withMethods("a", "b");
        x.configuration(Words.METHOD, true, 0, 1);
        x.provider(3, 0);
        x.trait(0, Words.PROVIDER, 3);
        x.trait(1, Words.PROVIDER, 3);
        x.trait(0, Words.COUNT, 4);
        x.needs(1, 0);
        Words.run(x);
        Check.report("passed", x, 0, Words.PASSED, 0, 0, 0, 0, 1, 1);
        Check.report("so the other passes, too", x, 1, Words.PASSED, 0, 0, 0, 0, 1, 1);
        Check.events("none due", x, "1 done 0 3", "1 done 1 3", "1 over 0 0");
    }

    static void dueAreCountTimesRows() {
        for (int count = 1; count <= 4; count++) {
            for (int rows = 0; rows <= 4; rows++) {
                SuiteRunner x = Words.withMethods("a");
                x.trait(0, Words.COUNT, count);
                x.trait(0, Words.PROVIDER, 1);
                x.provider(1, rows);
                x.start();
                Check.due(count + " times " + rows, x.tick(100), 1 + count * rows);
                Check.due("entered", x.report(0, Words.ENTERED), count * rows);
            }
        }
    }
}
