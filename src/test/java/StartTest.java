import java.util.function.Consumer;

/** Promise 11: start. Answers 0, or why it is refused: NONE, 1 (a need dangles) or 2 (a circle). */
public final class StartTest {
    private static final int NONE = SuiteRunner.NONE;
    private static final Story TWO = Story.methods("a", "b").then(x -> x.trait(0, Words.GROUPS, 1));

    public static void main(String[] args) {
        Check.all(StartTest.class);
    }

    /** Refused before any run, and with a run to be seen that stays to be seen. */
    private static void refused(String what, Story stage, Consumer<SuiteRunner> change, int want) {
        Check.refused(what, stage.then(change), SuiteRunner::start, want);
        Check.refused(what + " after a run", stage.then(Words::run).then(change), SuiteRunner::start, want);
    }

    static void startsARun() {
        Check.taken("the first", TWO, SuiteRunner::start, 0);
        Check.taken("the next", TWO.then(Words::run), SuiteRunner::start, 0);
        Check.taken("with one method", Story.methods("a"), SuiteRunner::start, 0);
        Check.taken("with 16", Story.methods(16), SuiteRunner::start, 0);
    }

    static void allSelectedMethodsAreWaiting() {
        SuiteRunner x = Story.methods(16).then(y -> y.select(5, 0, 0)).told();
        x.start();
        for (int m = 0; m < 16; m++) {
            Check.report("method " + m, x, m, m % 2 == 0 ? Words.WAITING : 0, 0, 0, 0, 0, NONE, NONE);
        }
        Check.yes("under way", x.running());
        for (int w = 0; w < 3; w++) {
            Check.due("worker " + w, x.worker(w), NONE);
        }
        Check.due("no event", x.event(-1), 0);
        Check.due("nor a latest", x.event(0), NONE);
    }

    static void oneIsUnderWay() {
        Story started = Story.WORLD.then(SuiteRunner::start);
        Check.refused("just started", started, SuiteRunner::start, NONE);
        for (int ticks = 1; ticks <= 5; ticks++) {
            int made = ticks;
            Check.refused("after " + ticks + " ticks", started.then(x -> x.tick(made)), SuiteRunner::start, NONE);
        }
    }

    static void noMethodIsSelected() {
        Check.refused("none is there", Story.NEW, SuiteRunner::start, NONE);
        refused("by classes", TWO, x -> x.select(14, 0, 0), NONE);
        refused("by no class", TWO, x -> x.select(0, 0, 0), NONE);
        refused("by groups included", TWO, x -> x.select(15, 2, 0), NONE);
        refused("by the pattern of including", TWO, x -> x.type(true, 'c'), NONE);
        refused("by the pattern of excluding", TWO, x -> x.type(false, '.'), NONE);
        refused("by groups excluded", Story.methods("a").then(x -> x.trait(0, 1, 1)), x -> x.select(15, 0, 1), NONE);
    }

    /** Neither a need that dangles nor a circle counts of methods that are not selected. */
    static void noneIsSelectedThoughNeedsDangle() {
        refused("none", TWO, x -> {
            x.needs(0, 0);
            x.needsGroup(1, 5);
            x.select(0, 0, 0);
        }, NONE);
    }

    static void aNamedMethodIsNotSelected() {
        Story two = Story.methods(2);
        refused("by its class", two, x -> {
            x.needs(0, 1);
            x.select(1, 0, 0);
        }, 1);
        refused("by the pattern", TWO, x -> {
            x.needs(1, 0);
            x.type(false, 'a');
        }, 1);
        Check.due("when it is", two.then(x -> x.needs(0, 1)).told().start(), 0);
    }

    static void noSelectedMethodIsInANamedGroup() {
        refused("no method is", TWO, x -> x.needsGroup(1, 5), 1);
        refused("none that is selected", TWO, x -> {
            x.needsGroup(1, 0);
            x.type(true, 'b');
        }, 1);
        Check.due("one is", TWO.then(x -> x.needsGroup(1, 0)).told().start(), 0);
        refused("each group named needs one", TWO, x -> {
            x.needsGroup(1, 0);
            x.needsGroup(1, 1);
        }, 1);
        Check.due("one may be in both", TWO.then(x -> {
            x.trait(0, Words.GROUPS, 3);
            x.needsGroup(1, 0);
            x.needsGroup(1, 1);
        }).told().start(), 0);
    }

    static void needsOfThoseNotSelectedDoNotCount() {
        Story two = Story.methods(2).then(x -> {
            x.needs(1, 0);
            x.needsGroup(1, 5);
            x.select(1, 0, 0);
        });
        Check.taken("only 0 is selected", two, SuiteRunner::start, 0);
    }

    /** An again set selects as well: what is needed but not in it dangles. */
    static void whatIsNotInTheAgainSetDangles() {
        Story again = Story.methods("a", "b").then(x -> {
            x.trait(0, Words.BEHAVIOUR, 1);
            Words.run(x);
            x.again();
        });
        Check.due("it can be run", again.told().start(), 0);
        Check.refused("it can't be run", again.then(x -> x.needs(0, 1)), SuiteRunner::start, 1);
    }

    static void danglingNeedsAreIgnored() {
        Story ignored = Story.methods(3).then(x -> {
            x.needs(0, 1);
            x.needs(0, 2);
            x.needsGroup(0, 3);
            x.select(5, 0, 0);
            x.options(1, false, true, false, true);
        });
        Check.taken("ignored", ignored, SuiteRunner::start, 0);
        SuiteRunner x = ignored.told();
        Words.run(x);
        Check.due("the other need is waited for", x.report(0, Words.TAKEN), 2);
        Check.due("both pass", x.report(0, Words.STATUS) + x.report(2, Words.STATUS), 2 * Words.PASSED);
    }

    static void aSelectedMethodNeedsItself() {
        refused("directly", TWO, x -> x.needs(1, 1), 2);
        refused("by another", TWO, x -> {
            x.needs(0, 1);
            x.needs(1, 0);
        }, 2);
        refused("by its own group", TWO, x -> x.needsGroup(0, 0), 2);
        refused("by fifteen others", Story.methods(16), x -> {
            for (int m = 0; m < 16; m++) {
                x.needs(m, (m + 1) % 16);
            }
        }, 2);
        Check.due("fifteen needs make no circle", Story.methods(16).then(x -> {
            for (int m = 0; m < 15; m++) {
                x.needs(m, m + 1);
            }
        }).told().start(), 0);
    }

    static void aCircleOfThoseNotSelected() {
        Story two = Story.methods(2).then(x -> x.needs(1, 1));
        Check.due("selected", two.told().start(), 2);
        Check.due("not selected", two.then(x -> x.select(1, 0, 0)).told().start(), 0);
        Story through = Story.methods(2).then(x -> {
            x.needs(0, 1);
            x.needs(1, 0);
            x.options(1, false, true, false, true);
            x.select(1, 0, 0);
        });
        Check.due("through one that is not selected", through.told().start(), 0);
    }

    /** "1 when a need dangles and these are not ignored; otherwise 2". */
    static void danglingIsToldBeforeACircle() {
        Consumer<SuiteRunner> bothWrong = x -> {
            x.needs(0, 0);
            x.needsGroup(1, 5);
        };
        refused("both", TWO, bothWrong, 1);
        refused("both, ignored", TWO, bothWrong.andThen(x -> x.options(1, false, true, false, true)), 2);
    }

    static void nothingOfTheRunBeforeIsLeft() {
        Story started = Story.WORLD.then(SuiteRunner::start);
        Check.same("after the same run", started, Story.WORLD.then(Words::run).then(SuiteRunner::start));
        Check.same("after three runs", started, Story.WORLD.then(Words::run).then(Words::run).then(Words::run).then(SuiteRunner::start));
        Story afterWorse = Story.WORLD.then(x -> {
            x.options(3, true, true, true, true);
            for (int m = 0; m < 8; m++) {
                x.trait(m, Words.WANTED, 3);
            }
            Words.run(x);
            for (int m = 0; m < 8; m++) {
                x.trait(m, Words.WANTED, 0);
            }
            x.options(2, false, true, false, false);
            x.start();
        });
        Check.same("after a run in which all fail", started, afterWorse);
        Story afterFew = Story.WORLD.then(x -> {
            x.select(4, 0, 0);
            Words.run(x);
            x.select(15, 0, 0);
            x.start();
        });
        Check.same("after a run of few methods", started, afterFew);
    }

    static void ofOneNotSelectedNothingIsLeftEither() {
        SuiteRunner x = TWO.told();
        Words.run(x);
        Check.report("selected", x, 1, Words.PASSED, 1, 0, 0, 1, 2, 3);
        x.select(15, 1, 0);
        x.start();
        Check.report("not selected", x, 1, 0, 0, 0, 0, 0, NONE, NONE);
    }

    static void theTimeIs0() {
        SuiteRunner x = TWO.told();
        for (int i = 0; i < 3; i++) {
            x.start();
            x.tick(1);
            Check.due("taken at", x.report(0, Words.TAKEN), 1);
            Check.due("first event", x.event(0), 1 + 2048);
            x.tick(100);
            Check.due("ended at", x.report(1, Words.ENDED), 3);
        }
    }
}
