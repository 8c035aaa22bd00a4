/** Promise 1: a new object has nothing declared. */
public final class NewObjectTest {
    private static final int NONE = SuiteRunner.NONE;

    public static void main(String[] args) {
        Check.all(NewObjectTest.class);
    }

    static void noRunHasBeen() {
        SuiteRunner x = new SuiteRunner();
        Check.no("running", x.running());
        Check.due("ticks of no run", x.tick(5), 0);
        Check.due("again of no run", x.again(), NONE);
        Check.due("start of no method", x.start(), NONE);
        for (int w = -1; w <= 3; w++) {
            Check.due("worker " + w, x.worker(w), NONE);
        }
        Check.due("how many events", x.event(-1), 0);
        for (int k = 0; k <= 64; k++) {
            Check.due("event " + k, x.event(k), NONE);
        }
    }

    static void noMethodIsThere() {
        SuiteRunner x = new SuiteRunner();
        Check.due("selected", x.selected(), 0);
        Check.due("circle", x.circle(), 0);
        for (int m = -1; m <= 16; m++) {
            Check.due("edges of " + m, x.edges(m), 0);
            for (int what = 0; what <= 6; what++) {
                Check.due("report of " + m, x.report(m, what), NONE);
            }
        }
    }

    static void noMethodCanBeSpokenOf() {
        for (int m = 0; m < 16; m++) {
            int number = m;
            Check.refused("trait", Story.NEW, x -> x.trait(number, Words.BEHAVIOUR, 0));
            Check.refused("needs", Story.NEW, x -> x.needs(number, number));
            Check.refused("needsGroup", Story.NEW, x -> x.needsGroup(number, 0));
        }
    }

    static void theFirstOnesHaveNumber0() {
        Check.taken("the first method", Story.NEW, x -> x.method(0, Words.name("a")), 0);
        Check.taken("the first configuration", Story.methods("a"), x -> x.configuration(Words.SUITE, true, 0, 0), 0);
    }

    static void noConfigurationRuns() {
        SuiteRunner x = Story.methods("a").told();
        Words.run(x);
        Check.events("none", x, "1 enter 0 0", "2 end 0 1", "2 done 0 3", "2 over 0 0");
    }

    /** What is said to be so at first is so without a call. */
    static void firstValues() {
        Story world = Story.methods(4).then(x -> x.trait(0, Words.PROVIDER, 0));
        Check.same("all classes, no group", world, world.then(x -> x.select(15, 0, 0)));
        Check.same("options", world, world.then(x -> x.options(1, false, true, false, false)));
        Check.same("one row", world, world.then(x -> x.provider(0, 1)));
    }

    static void objectsAreApart() {
        SuiteRunner one = Story.methods("a", "b").told();
        SuiteRunner other = Story.methods("c").told();
        one.start();
        one.tick(1);
        Check.no("the other runs", other.running());
        Check.due("the other has", other.selected(), 1);
        Check.due("its events", other.event(-1), 0);
        Check.due("its worker", other.worker(0), NONE);
        Check.due("one has", one.selected(), 3);
    }
}
