/** Promise 19: worker. The method that it has; NONE when it has none or there is no such worker. */
public final class WorkerTest {
    private static final int NONE = SuiteRunner.NONE;

    public static void main(String[] args) {
        Check.all(WorkerTest.class);
    }

    private static Story with(int workers) {
        return Story.methods("a", "b", "c", "d").then(x -> x.options(workers, false, true, false, false));
    }

    private static void allHaveNone(String what, SuiteRunner x) {
        for (int w = -1; w <= 3; w++) {
            Check.due(what + ": worker " + w, x.worker(w), NONE);
        }
    }

    static void beforeARun() {
        allHaveNone("new", new SuiteRunner());
        allHaveNone("never started", with(3).told());
        allHaveNone("before the first tick", with(3).then(SuiteRunner::start).told());
    }

    static void afterARun() {
        allHaveNone("over", with(3).then(Words::run).told());
        allHaveNone("started anew", with(3).then(Words::run).then(SuiteRunner::start).told());
    }

    static void thereIsNoSuchWorker() {
        for (int workers = 1; workers <= 3; workers++) {
            SuiteRunner x = with(workers).then(SuiteRunner::start).told();
            x.tick(1);
            Check.due("the first of " + workers, x.worker(0), 0);
            Check.due("the last of " + workers, x.worker(workers - 1), workers - 1);
            for (int wrong : new int[] {-1, workers, 3, 4, 32, Integer.MIN_VALUE, Integer.MAX_VALUE}) {
                Check.due("worker " + wrong + " of " + workers, x.worker(wrong), NONE);
            }
        }
    }

    static void oneAtFirst() {
        SuiteRunner x = Story.methods("a", "b").then(SuiteRunner::start).told();
        x.tick(1);
        Check.due("worker 0", x.worker(0), 0);
        Check.due("worker 1", x.worker(1), NONE);
    }

    static void theyGoOnAndTakeTheNext() {
        SuiteRunner x = with(2).then(y -> y.trait(0, Words.DURATION, 3)).then(SuiteRunner::start).told();
        int[][] due = {{0, 1}, {0, 2}, {0, 3}, {NONE, NONE}};
        for (int[] each : due) {
            x.tick(1);
            Check.due("worker 0", x.worker(0), each[0]);
            Check.due("worker 1", x.worker(1), each[1]);
        }
        Check.no("over", x.running());
    }

    static void oneHasNoneWhileTheOthersHave() {
        SuiteRunner x = with(3).told();
        x.trait(1, Words.DURATION, 5);
        x.needs(3, 1);
        x.start();
        x.tick(2);
        Check.due("worker 0 waits for the need of 3", x.worker(0), NONE);
        Check.due("worker 1 goes on", x.worker(1), 1);
        Check.due("worker 2 waits, too", x.worker(2), NONE);
        x.tick(4);
        Check.due("worker 0 takes it", x.worker(0), 3);
        Check.due("worker 1 has none", x.worker(1), NONE);
    }

    /** The last method of 16 is told as well as the first. */
    static void theLastOf16() {
        SuiteRunner x = Story.methods(16).then(SuiteRunner::start).told();
        x.tick(16);
        Check.due("worker 0", x.worker(0), 15);
    }

    /** Fewer workers in the next run: those of the run before are not there any more. */
    static void fewerInTheNextRun() {
        SuiteRunner x = with(3).then(Words::run).told();
        x.options(1, false, true, false, false);
        x.start();
        x.tick(1);
        Check.due("worker 0", x.worker(0), 0);
        Check.due("worker 1", x.worker(1), NONE);
        Check.due("worker 2", x.worker(2), NONE);
    }

    static void askingChangesNothing() {
        Story middle = Story.WORLD.then(SuiteRunner::start).then(x -> x.tick(2));
        Check.same("asked", middle, middle.then(x -> x.worker(0)));
    }
}
