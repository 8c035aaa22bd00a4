/** Promise 7: configuration. Its level is 0 .. 2, its class 0 .. 3, and there are at most 8. */
public final class ConfigurationTest {
    private static final int NONE = SuiteRunner.NONE;
    private static final int[] FAR_OFF = {-5, 5, 32, 33, Integer.MIN_VALUE, Integer.MAX_VALUE};
    /** One method in each class. */
    private static final Story FOUR = Story.methods(4);

    public static void main(String[] args) {
        Check.all(ConfigurationTest.class);
    }

    private static Story with(int count) {
        return FOUR.then(x -> {
            for (int c = 0; c < count; c++) {
                x.configuration(c % 3, c % 2 == 0, c % 4, 0);
            }
        });
    }

    static void answersItsNumber() {
        for (int c = 0; c < 8; c++) {
            Check.taken("configuration " + c, with(c), x -> x.configuration(Words.SUITE, true, 0, 0), c);
        }
    }

    static void thereAreAtMost8() {
        for (int level = 0; level < 3; level++) {
            int of = level;
            Check.refused("a ninth of level " + level, with(8), x -> x.configuration(of, true, 0, 1), NONE);
        }
        SuiteRunner x = with(8).told();
        x.configuration(Words.SUITE, true, 0, 0);
        Check.due("nor later", x.configuration(Words.SUITE, true, 0, 0), NONE);
    }

    static void levelsAre0To2() {
        for (int level = 0; level < 3; level++) {
            int of = level;
            Check.taken("level " + level, FOUR, x -> x.configuration(of, true, 0, 0), 0);
            Check.taken("level " + level + ", after", FOUR, x -> x.configuration(of, false, 0, 0), 0);
        }
        Check.refused("level -1", FOUR, x -> x.configuration(-1, true, 0, 1), NONE);
        Check.refused("level 3", FOUR, x -> x.configuration(3, true, 0, 1), NONE);
        for (int wrong : FAR_OFF) {
            Check.refused("level " + wrong, FOUR, x -> x.configuration(wrong, true, 0, 1), NONE);
        }
    }

    static void classesAre0To3() {
        for (int level = 0; level < 3; level++) {
            int of = level;
            for (int cls = 0; cls < 4; cls++) {
                int in = cls;
                Check.taken("class " + cls, FOUR, x -> x.configuration(of, true, in, 0), 0);
            }
            Check.refused("class -1, level " + level, FOUR, x -> x.configuration(of, true, -1, 1), NONE);
            Check.refused("class 4, level " + level, FOUR, x -> x.configuration(of, true, 4, 1), NONE);
            for (int wrong : FAR_OFF) {
                Check.refused("class " + wrong + ", level " + level, FOUR, x -> x.configuration(of, false, wrong, 1), NONE);
            }
        }
    }

    /** "A class (which for SUITE means nothing)". */
    static void forSuiteTheClassMeansNothing() {
        for (boolean before : new boolean[] {true, false}) {
            Story zero = FOUR.then(x -> x.configuration(Words.SUITE, before, 0, 1));
            for (int cls = 1; cls < 4; cls++) {
                int in = cls;
                Check.same("class " + cls, zero, FOUR.then(x -> x.configuration(Words.SUITE, before, in, 1)));
            }
        }
    }

    static void forOthersItMeansTheMethodsOfThatClass() {
        for (int cls = 0; cls < 4; cls++) {
            for (int level = 1; level < 3; level++) {
                SuiteRunner x = FOUR.told();
                x.configuration(level, true, cls, 1);
                Words.run(x);
                for (int m = 0; m < 4; m++) {
                    Check.due("method " + m, x.report(m, Words.STATUS), m == cls ? Words.SKIPPED : Words.PASSED);
                }
            }
        }
    }

    static void theBehaviourIsAnyInt() {
        for (int behaviour : new int[] {0, 1, -1, Integer.MIN_VALUE, Integer.MAX_VALUE, 1 << 29, 1 << 30}) {
            SuiteRunner x = FOUR.told();
            Check.due("behaviour " + behaviour, x.configuration(Words.SUITE, true, 0, behaviour), 0);
            x.start();
            x.tick(1);
            Check.due("its first run by its lowest bit", x.event(x.event(-1) - 1), 2048 + 128 * (1 + (behaviour & 1)));
        }
    }

    static void whatIsRefusedTakesNoNumber() {
        SuiteRunner x = FOUR.told();
        x.configuration(Words.SUITE, true, 4, 0);
        x.configuration(3, true, 0, 0);
        Check.due("the first", x.configuration(Words.SUITE, true, 0, 0), 0);
        x.configuration(-1, true, 0, 0);
        Check.due("the second", x.configuration(Words.SUITE, true, 0, 0), 1);
    }

    static void underWay() {
        for (int level = 0; level < 3; level++) {
            int of = level;
            Check.refusedUnderWay("before, level " + level, x -> x.configuration(of, true, 1, 1), 4, NONE);
            Check.refusedUnderWay("after, level " + level, x -> x.configuration(of, false, 1, 1), 4, NONE);
        }
    }
}
