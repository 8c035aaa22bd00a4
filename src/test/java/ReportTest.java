/** Promise 18: report. What is 0 .. 6, of a method that is there. */
public final class ReportTest {
    private static final int NONE = SuiteRunner.NONE;
    /** Method 0 passes, fails and skips, two ticks each; 1 comes behind it; 2 is not selected. */
    private static final Story THREE = Story.methods("a", "b", "c").then(x -> {
        x.trait(2, Words.GROUPS, 1);
        x.select(15, 0, 1);
        x.trait(0, Words.COUNT, 3);
        x.trait(0, Words.DURATION, 2);
        x.trait(0, Words.BEHAVIOUR, 1 << 3 | 5 << 6);
    });

    public static void main(String[] args) {
        Check.all(ReportTest.class);
    }

    private static SuiteRunner after(int ticks) {
        return THREE.then(SuiteRunner::start).then(x -> x.tick(ticks)).told();
    }

    static void beforeAnyRun() {
        for (int m = 0; m < 16; m++) {
            Check.report("before any run", Story.methods(16).told(), m, 0, 0, 0, 0, 0, NONE, NONE);
        }
        SuiteRunner refused = THREE.then(x -> x.select(0, 0, 0)).then(SuiteRunner::start).told();
        Check.report("after a start that was refused", refused, 0, 0, 0, 0, 0, 0, NONE, NONE);
    }

    static void ofOneThatWasNotSelected() {
        for (int ticks = 0; ticks <= 8; ticks++) {
            Check.report("after " + ticks, after(ticks), 2, 0, 0, 0, 0, 0, NONE, NONE);
        }
    }

    static void whileWaitingAndRunning() {
        Check.report("started", after(0), 0, Words.WAITING, 0, 0, 0, 0, NONE, NONE);
        Check.report("taken", after(1), 0, Words.RUNNING, 0, 0, 0, 1, 1, NONE);
        Check.report("a tick on", after(2), 0, Words.RUNNING, 0, 0, 0, 1, 1, NONE);
        Check.report("the second", after(3), 0, Words.RUNNING, 1, 0, 0, 2, 1, NONE);
        Check.report("the third", after(5), 0, Words.RUNNING, 1, 1, 0, 3, 1, NONE);
        Check.report("a tick before its end", after(6), 0, Words.RUNNING, 1, 1, 0, 3, 1, NONE);
        Check.report("the other waits", after(6), 1, Words.WAITING, 0, 0, 0, 0, NONE, NONE);
    }

    static void whenEnded() {
        Check.report("ended", after(7), 0, Words.FAILED, 1, 1, 1, 3, 1, 7);
        Check.report("the other is taken", after(7), 1, Words.RUNNING, 0, 0, 0, 1, 7, NONE);
        Check.report("stays", after(8), 0, Words.FAILED, 1, 1, 1, 3, 1, 7);
        Check.report("the other has ended", after(8), 1, Words.PASSED, 1, 0, 0, 1, 7, 8);
    }

    static void staysUntilTheNextRunStarts() {
        SuiteRunner x = after(8);
        x.trait(0, Words.COUNT, 1);
        x.select(0, 0, 0);
        x.start();
        Check.report("a start that is refused", x, 0, Words.FAILED, 1, 1, 1, 3, 1, 7);
        x.select(15, 0, 0);
        Check.report("another selection", x, 2, 0, 0, 0, 0, 0, NONE, NONE);
        x.start();
        Check.report("a start", x, 0, Words.WAITING, 0, 0, 0, 0, NONE, NONE);
        Check.report("now it is selected", x, 2, Words.WAITING, 0, 0, 0, 0, NONE, NONE);
    }

    /** One that is taken and ends at once has both times. */
    static void takenAndEndedAtOnce() {
        SuiteRunner x = Story.methods("a", "b").told();
        x.trait(0, Words.BEHAVIOUR, 1);
        x.trait(0, Words.DURATION, 9);
        x.needs(1, 0);
        Words.run(x);
        Check.report("skipped by its need", x, 1, Words.SKIPPED, 0, 0, 0, 0, 10, 10);
    }

    /** SKIPs are counted of those entered, SKIPPED of those that were not. */
    static void skipsAndSkipped() {
        SuiteRunner x = Story.methods("a").told();
        x.trait(0, Words.COUNT, 3);
        x.trait(0, Words.BEHAVIOUR, 5);
        x.configuration(Words.METHOD, false, 0, 1);
        Words.run(x);
        Check.report("one SKIP and two SKIPPED", x, 0, Words.SKIPPED, 0, 0, 3, 1, 1, 2);
    }

    static void sixteenOfEach() {
        int[][] due = {{Words.PASSED, 16, 0, 0}, {Words.FAILED, 0, 16, 0}, {Words.SKIPPED, 0, 0, 16}};
        int[] deeds = {everyDeed(0), everyDeed(1), everyDeed(5)};
        for (int i = 0; i < 3; i++) {
            SuiteRunner x = Story.methods("a").told();
            x.trait(0, Words.COUNT, 4);
            x.trait(0, Words.PROVIDER, 3);
            x.provider(3, 4);
            x.trait(0, Words.BEHAVIOUR, deeds[i]);
            Words.run(x);
            Check.report("the most", x, 0, due[i][0], due[i][1], due[i][2], due[i][3], 16, 1, 17);
        }
    }

    private static int everyDeed(int deed) {
        int behaviour = 0;
        for (int j = 0; j < 10; j++) {
            behaviour |= deed << 3 * j;
        }
        return behaviour;
    }

    static void whatIs0To6() {
        for (Story story : new Story[] {THREE, THREE.then(SuiteRunner::start), THREE.then(Words::run)}) {
            for (int wrong : new int[] {-1, 7, 8, 32, Integer.MIN_VALUE, Integer.MAX_VALUE}) {
                Check.due("what " + wrong, story.told().report(0, wrong), NONE);
            }
        }
        Check.due("the first", after(8).report(0, 0), Words.FAILED);
        Check.due("the last", after(8).report(0, 6), 7);
    }

    static void thereIsNoSuchMethod() {
        for (Story story : new Story[] {THREE, THREE.then(SuiteRunner::start), THREE.then(Words::run)}) {
            for (int wrong : new int[] {-1, 3, 15, 16, 17, 32, Integer.MIN_VALUE, Integer.MAX_VALUE}) {
                for (int what = 0; what <= 6; what++) {
                    Check.due("method " + wrong, story.told().report(wrong, what), NONE);
                }
            }
        }
        SuiteRunner full = Story.methods(16).told();
        Words.run(full);
        Check.report("the first of 16", full, 0, Words.PASSED, 1, 0, 0, 1, 1, 2);
        Check.report("the last of 16", full, 15, Words.PASSED, 1, 0, 0, 1, 16, 17);
        Check.due("method 16", full.report(16, 0), NONE);
    }

    static void declaredAfterTheRun() {
        SuiteRunner x = after(8);
        x.method(0, Words.name("d"));
        Check.report("declared after the run", x, 3, 0, 0, 0, 0, 0, NONE, NONE);
    }

    static void askingChangesNothing() {
        Check.same("asked", Story.WORLD, Story.WORLD.then(x -> x.report(0, 0)));
    }
}
