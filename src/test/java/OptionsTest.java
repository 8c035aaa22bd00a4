/** Promise 10: options. There are 1 .. 3 workers; the four others are set along with them. */
public final class OptionsTest {
    /** A configuration fails, a provider is broken and a need dangles: each option is seen here, but the mode with one worker. */
    private static final Story STAGE = Story.methods("a", "b", "c", "d").then(x -> {
        x.method(1, Words.name("e"));
        x.trait(4, Words.PROVIDER, 0);
        x.provider(0, -1);
        x.trait(0, Words.COUNT, 3);
        x.configuration(Words.METHOD, false, 0, 1);
        x.needsGroup(2, 5);
    });
    private static final Story NO_NEED_DANGLES = STAGE.then(x -> x.trait(0, Words.GROUPS, 32));

    public static void main(String[] args) {
        Check.all(OptionsTest.class);
    }

    private static Story with(Story stage, int workers, boolean classes, boolean skips, boolean propagates, boolean ignores) {
        return stage.then(x -> x.options(workers, classes, skips, propagates, ignores));
    }

    static void workersAre1To3() {
        for (int workers = 1; workers <= 3; workers++) {
            SuiteRunner x = Story.methods("a", "b", "c", "d").told();
            Check.yes(workers + " workers", x.options(workers, false, true, false, false));
            x.start();
            x.tick(1);
            for (int w = 0; w < 4; w++) {
                Check.due("worker " + w + " of " + workers, x.worker(w), w < workers ? w : SuiteRunner.NONE);
            }
        }
        Story set = with(NO_NEED_DANGLES, 2, false, true, false, false);
        for (int wrong : new int[] {0, 4, -1, 5, 32, Integer.MIN_VALUE, Integer.MAX_VALUE}) {
            Check.refused(wrong + " workers", set, x -> x.options(wrong, false, true, false, false));
        }
    }

    /** With a wrong number of workers none of the others is set either. */
    static void refusedSetsNoneOfTheOthers() {
        for (int wrong : new int[] {0, 4}) {
            for (int flips = 1; flips < 16; flips++) {
                boolean a = (flips & 1) != 0;
                boolean b = (flips & 2) != 0;
                boolean c = (flips & 4) != 0;
                boolean d = (flips & 8) != 0;
                Check.refused("at first", STAGE, x -> x.options(wrong, a, !b, c, d));
                Check.refused("when set", with(NO_NEED_DANGLES, 3, !a, b, !c, !d), x -> x.options(wrong, a, !b, c, d));
            }
        }
    }

    static void eachIsSeen() {
        Story base = with(NO_NEED_DANGLES, 2, false, true, false, false);
        Check.taken("workers, one less", base, x -> x.options(1, false, true, false, false));
        Check.taken("workers, one more", base, x -> x.options(3, false, true, false, false));
        Check.taken("classes", base, x -> x.options(2, true, true, false, false));
        Check.taken("skips", base, x -> x.options(2, false, false, false, false));
        Check.taken("propagates", base, x -> x.options(2, false, true, true, false));
        Check.taken("ignores", with(STAGE, 2, false, true, false, false), x -> x.options(2, false, true, false, true));
        Check.same("set twice", base, with(with(NO_NEED_DANGLES, 3, true, false, true, true), 2, false, true, false, false));
    }

    /** "At first 1, false, true, false, false": with one worker the mode is not seen. */
    static void atFirst() {
        for (Story stage : new Story[] {STAGE, NO_NEED_DANGLES}) {
            Check.same("at first", stage, with(stage, 1, false, true, false, false));
        }
        Check.differ("not 2 workers", NO_NEED_DANGLES, with(NO_NEED_DANGLES, 2, false, true, false, false));
        Check.differ("not to skip", NO_NEED_DANGLES, with(NO_NEED_DANGLES, 1, false, false, false, false));
        Check.differ("not propagating", NO_NEED_DANGLES, with(NO_NEED_DANGLES, 1, false, true, true, false));
        Check.differ("not ignoring", STAGE, with(STAGE, 1, false, true, false, true));
    }

    static void propagates() {
        SuiteRunner x = with(NO_NEED_DANGLES, 1, false, false, false, false).told();
        Words.run(x);
        Check.report("a broken provider skips", x, 4, Words.SKIPPED, 0, 0, 0, 0, 7, 7);
        x.options(1, false, false, true, false);
        Words.run(x);
        Check.report("or fails", x, 4, Words.FAILED, 0, 0, 0, 0, 7, 7);
    }

    static void underWay() {
        Check.refusedUnderWay("fewer workers", x -> x.options(1, false, true, false, false));
        Check.refusedUnderWay("more workers", x -> x.options(3, false, true, false, false));
        Check.refusedUnderWay("classes", x -> x.options(2, true, true, false, false));
        Check.refusedUnderWay("skips", x -> x.options(2, false, false, false, false));
        Check.refusedUnderWay("propagates", x -> x.options(2, false, true, true, false));
        Check.refusedUnderWay("ignores", x -> x.options(2, false, true, false, true));
    }
}
