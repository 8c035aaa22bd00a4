import java.util.function.Consumer;

/** Promise 13: again. What failed or was skipped, with all that it needs now; refused under way, and when no run was over. */
public final class AgainTest {
    private static final int NONE = SuiteRunner.NONE;

    public static void main(String[] args) {
        Check.all(AgainTest.class);
    }

    /** 0 passes; 1 needs 0 and passes; 2 needs 1 and fails; 3 needs 2 and is skipped; 4 passes. */
    private static final Story CHAIN = Story.methods("a", "b", "c", "d", "e").then(x -> {
        x.needs(1, 0);
        x.needs(2, 1);
        x.needs(3, 2);
        x.trait(2, Words.BEHAVIOUR, 1);
    });
    private static final Story OVER = CHAIN.then(Words::run);

    private static int againAfter(Consumer<SuiteRunner> change) {
        return OVER.then(change).told().again();
    }

    static void noneWasOver() {
        Check.refused("nothing declared", Story.NEW, SuiteRunner::again, NONE);
        Check.refused("never started", CHAIN, SuiteRunner::again, NONE);
        Check.refused("no method to start", CHAIN.then(x -> x.select(0, 0, 0)).then(SuiteRunner::start), SuiteRunner::again, NONE);
        Check.refused("a dangling need", CHAIN.then(x -> x.needsGroup(0, 0)).then(SuiteRunner::start), SuiteRunner::again, NONE);
        Check.refused("a circle", CHAIN.then(x -> x.needs(0, 0)).then(SuiteRunner::start), SuiteRunner::again, NONE);
    }

    static void underWayTheFirstTime() {
        Story started = CHAIN.then(SuiteRunner::start);
        for (int ticks = 0; ticks <= 4; ticks++) {
            int made = ticks;
            Check.refused("after " + ticks + " ticks", started.then(x -> x.tick(made)), SuiteRunner::again, NONE);
        }
        Check.due("over", started.then(x -> x.tick(5)).told().again(), 15);
    }

    /** Though a run before was over. */
    static void underWayTheNextTime() {
        Check.taken("over", OVER, SuiteRunner::again, 15);
        Story next = OVER.then(SuiteRunner::start);
        Check.refused("just started", next, SuiteRunner::again, NONE);
        Check.refused("in its middle", next.then(x -> x.tick(4)), SuiteRunner::again, NONE);
    }

    /** The again set of before is still there when a call is refused. */
    static void refusedLeavesTheSetOfBefore() {
        Story again = OVER.then(SuiteRunner::again).then(SuiteRunner::start);
        Check.refused("with an again set", again, SuiteRunner::again, NONE);
        Check.due("it is there", again.then(SuiteRunner::again).told().selected(), 15);
    }

    /** A start that is refused leaves the run before to be seen, so that it can be had again. */
    static void afterAStartThatWasRefused() {
        Check.due("no method", againAfter(x -> {
            x.select(0, 0, 0);
            x.start();
            x.select(15, 0, 0);
        }), 15);
        Check.due("a circle", againAfter(x -> {
            x.needs(4, 4);
            x.start();
        }), 15);
    }

    static void failedOrSkipped() {
        for (int deed = 0; deed < 8; deed++) {
            SuiteRunner x = Story.methods("a", "b", "c").told();
            x.trait(1, Words.BEHAVIOUR, deed);
            Words.run(x);
            Check.due("deed " + deed, x.again(), deed == 0 || deed > 5 ? 0 : 2);
        }
    }

    static void theFirstAndTheLastAndAll() {
        for (int m = 0; m < 16; m++) {
            SuiteRunner x = Story.methods(16).told();
            x.trait(m, Words.BEHAVIOUR, 1);
            Words.run(x);
            Check.due("only " + m, x.again(), 1 << m);
            Check.due("is selected", x.selected(), 1 << m);
        }
        SuiteRunner x = Story.methods(16).told();
        x.configuration(Words.SUITE, true, 0, 1);
        Words.run(x);
        Check.due("all", x.again(), 0xffff);
        Check.due("are selected", x.selected(), 0xffff);
    }

    /** "(When the set is 0, there is no again set.)" */
    static void aSetOf0IsNone() {
        SuiteRunner x = Story.methods("a", "b").told();
        Words.run(x);
        Check.due("nothing failed", x.again(), 0);
        Check.due("all are selected", x.selected(), 3);
        Check.due("one more, too", x.method(0, Words.name("c")), 2);
        Check.due("is selected", x.selected(), 7);
    }

    static void aSetOf0EndsTheOneBefore() {
        SuiteRunner x = OVER.then(SuiteRunner::again).told();
        x.trait(2, Words.BEHAVIOUR, 0);
        Words.run(x);
        Check.due("still the old set", x.selected(), 15);
        Check.due("nothing failed", x.again(), 0);
        Check.due("so there is none", x.selected(), 31);
    }

    static void withAllThatIsNeeded() {
        SuiteRunner x = OVER.told();
        Check.due("failed, skipped and needed", x.again(), 15);
        Check.due("selected", x.selected(), 15);
        Check.due("edges", x.edges(3), 4);
        Check.due("no edges of 4", x.edges(4), 0);
        x.start();
        Check.due("4 is not selected", x.report(4, Words.STATUS), Words.NOT_SELECTED);
    }

    static void byFifteenOthers() {
        SuiteRunner x = Story.methods(16).told();
        for (int m = 0; m < 15; m++) {
            x.needs(m, m + 1);
        }
        x.trait(0, Words.BEHAVIOUR, 1);
        Words.run(x);
        Check.due("0 needs all", x.again(), 0xffff);
        SuiteRunner y = Story.methods(16).told();
        for (int m = 1; m < 16; m++) {
            y.needs(m, m - 1);
        }
        y.trait(15, Words.BEHAVIOUR, 1);
        Words.run(y);
        Check.due("15 needs all", y.again(), 0xffff);
    }

    /** "By what is needed now", not by what was needed in the run. */
    static void byWhatIsNeededNow() {
        Check.due("4 is needed now", againAfter(x -> x.needs(3, 4)), 31);
        Check.due("who needs them is not in it", againAfter(x -> x.needs(4, 3)), 15);
        Check.due("by a group and by others", againAfter(x -> {
            x.trait(4, Words.GROUPS, 2);
            x.needsGroup(0, 1);
        }), 31);
        Check.due("in a circle", againAfter(x -> x.needs(0, 3)), 15);
        Check.due("a later method is not in it", againAfter(x -> x.method(0, Words.name("f"))), 15);
        Check.due("unless it is needed", againAfter(x -> {
            x.method(0, Words.name("f"));
            x.needs(0, 5);
        }), 47);
    }

    static void byWhatIsSelectedNow() {
        Check.due("1 is not selected now, so it is no need", againAfter(x -> x.type(false, 'b')), 12);
        Check.due("nor is anyone when none is", againAfter(x -> x.select(0, 0, 0)), 12);
        SuiteRunner x = OVER.told();
        x.type(true, 'a');
        Check.due("the failed ones are in it though they are not selected", x.again(), 12);
        Check.due("but none is selected", x.selected(), 0);
        Check.due("so none can be run", x.start(), NONE);
    }

    static void byTheLatestRun() {
        SuiteRunner x = OVER.then(SuiteRunner::again).told();
        x.trait(2, Words.BEHAVIOUR, 0);
        x.trait(3, Words.BEHAVIOUR, 5);
        Check.due("traits of now do not count", x.again(), 15);
        Words.run(x);
        Check.due("3 asked to be skipped", x.again(), 15);
        x.select(15, 0, 0);
        x.trait(1, Words.BEHAVIOUR, 2);
        x.trait(1, Words.WANTED, 2);
        Words.run(x);
        Check.due("1 failed, so 2 and 3 were skipped", x.again(), 15);
        x.trait(1, Words.WANTED, 1);
        x.trait(3, Words.BEHAVIOUR, 0);
        x.trait(0, Words.BEHAVIOUR, 1);
        x.select(15, 0, 0);
        Words.run(x);
        x.needs(4, 0);
        Check.due("all but 4, which passed", x.again(), 15);
    }

    static void twiceIsTheSame() {
        Check.same("twice", OVER.then(SuiteRunner::again), OVER.then(SuiteRunner::again).then(SuiteRunner::again));
    }

    static void selectEndsIt() {
        SuiteRunner x = OVER.then(SuiteRunner::again).told();
        x.select(15, 0, 0);
        Check.due("select ends it", x.selected(), 31);
        Check.due("it can be had again", x.again(), 15);
    }

    /** What is picked and typed still counts beside it. */
    static void besideWhatIsPicked() {
        SuiteRunner x = OVER.then(SuiteRunner::again).told();
        x.type(false, 'a');
        Check.due("but not a", x.selected(), 14);
    }
}
