/** Promise 14: running. From a start that answers 0 until all selected methods have ended. */
public final class RunningTest {
    public static void main(String[] args) {
        Check.all(RunningTest.class);
    }

    static void beforeAnyRun() {
        Check.no("new", new SuiteRunner().running());
        Check.no("with all declared", Story.WORLD.told().running());
        Check.no("after ticks of no run", Story.WORLD.then(x -> x.tick(3)).told().running());
    }

    static void fromTheStartToTheEnd() {
        SuiteRunner x = Story.methods("a", "b").told();
        for (int i = 0; i < 3; i++) {
            x.start();
            Check.yes("started", x.running());
            x.tick(0);
            Check.yes("no tick", x.running());
            x.tick(1);
            Check.yes("first tick", x.running());
            x.tick(1);
            Check.yes("one has ended, the other has not", x.running());
            x.tick(1);
            Check.no("over", x.running());
        }
    }

    static void notAfterAStartThatIsRefused() {
        SuiteRunner none = new SuiteRunner();
        none.start();
        Check.no("no method", none.running());
        SuiteRunner dangling = Story.methods("a").then(x -> x.needsGroup(0, 0)).told();
        dangling.start();
        Check.no("a need dangles", dangling.running());
        SuiteRunner circle = Story.methods("a").then(x -> x.needs(0, 0)).told();
        circle.start();
        Check.no("a circle", circle.running());
    }

    static void stillAfterAStartThatIsRefused() {
        SuiteRunner x = Story.methods("a").told();
        x.start();
        x.start();
        Check.yes("under way", x.running());
    }

    static void oneTickMayBeTheWholeRun() {
        SuiteRunner x = Story.methods("a").told();
        x.provider(0, 0);
        x.trait(0, Words.PROVIDER, 0);
        x.start();
        Check.yes("before it", x.running());
        x.tick(1);
        Check.no("after it", x.running());
    }

    static void theSlowestWorkerEndsIt() {
        SuiteRunner x = Story.methods("a", "b").told();
        x.options(2, false, true, false, false);
        x.trait(1, Words.DURATION, 9);
        x.start();
        x.tick(9);
        Check.yes("0 has ended long ago", x.running());
        x.tick(1);
        Check.no("now 1 has, too", x.running());
    }

    static void methodsThatAreNotSelectedAreNotWaitedFor() {
        SuiteRunner x = Story.methods(2).told();
        x.select(1, 0, 0);
        x.start();
        x.tick(2);
        Check.no("over", x.running());
    }
}
