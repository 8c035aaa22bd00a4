/** Promise 3: trait. Each has its own least and greatest value, and a first one. */
public final class TraitTest {
    private static final int LEAST_INT = Integer.MIN_VALUE;
    private static final int GREATEST_INT = Integer.MAX_VALUE;

    public static void main(String[] args) {
        Check.all(TraitTest.class);
    }

    private static Story with(Story stage, int which, int v) {
        return stage.then(x -> x.trait(0, which, v));
    }

    /** The least and the greatest are kept as they are when one beyond them is refused, and so is one between. */
    private static void bounds(Story stage, int which, int least, int most) {
        for (int kept : new int[] {least, most, (least + most) / 2}) {
            Check.yes("trait " + which + " = " + kept, stage.told().trait(0, which, kept));
            for (int wrong : new int[] {least - 1, most + 1, least - 32, most + 64, LEAST_INT, GREATEST_INT}) {
                Check.refused("trait " + which + " = " + wrong + " after " + kept, with(stage, which, kept),
                    x -> x.trait(0, which, wrong));
            }
        }
        for (int v = least; v <= most; v++) {
            Check.yes("trait " + which + " = " + v, stage.told().trait(0, which, v));
        }
    }

    /** What the value is at first, and that the others are not the same. */
    private static void first(Story stage, int which, int first, int... others) {
        Check.same("trait " + which + " at first", stage, with(stage, which, first));
        for (int other : others) {
            Check.differ("trait " + which + " = " + other, stage, with(stage, which, other));
            Check.same("trait " + which + " set twice", with(stage, which, other),
                with(with(stage, which, first), which, other));
        }
    }

    /** Method 0 stands between 1 and 2 as long as all three have the same priority. */
    private static Story inTheMiddle(int priority) {
        return Story.methods("b", "a", "c").then(x -> {
            x.trait(1, Words.PRIORITY, priority);
            x.trait(2, Words.PRIORITY, priority);
        });
    }

    static void priority() {
        bounds(inTheMiddle(-9), Words.PRIORITY, -9, 9);
        bounds(inTheMiddle(9), Words.PRIORITY, -9, 9);
        first(inTheMiddle(0), Words.PRIORITY, 0, -9, -1, 1, 9);
        Check.differ("-9 is less than -8", with(inTheMiddle(-8), 0, -9), with(inTheMiddle(-8), 0, -8));
        Check.differ("9 is greater than 8", with(inTheMiddle(8), 0, 9), with(inTheMiddle(8), 0, 8));
    }

    /** Method 1 + g needs group g, so that its needs tell whether method 0 is in it. */
    private static final Story NEEDED = Story.methods("a", "b", "c", "d", "e", "f", "g").then(x -> {
        for (int g = 0; g < 6; g++) {
            x.needsGroup(1 + g, g);
        }
        x.options(1, false, true, false, true);
    });

    static void groups() {
        bounds(NEEDED, Words.GROUPS, 0, 63);
        first(NEEDED, Words.GROUPS, 0, 1, 2, 4, 8, 16, 32, 63);
        for (int set = 0; set < 64; set++) {
            SuiteRunner x = with(NEEDED, Words.GROUPS, set).told();
            for (int g = 0; g < 6; g++) {
                Check.due("set " + set + ", group " + g, x.edges(1 + g), set >> g & 1);
            }
        }
    }

    static void always() {
        Story needsOneThatFails = Story.methods("b", "a").then(x -> {
            x.trait(1, Words.BEHAVIOUR, 1);
            x.needs(0, 1);
        });
        bounds(needsOneThatFails, Words.ALWAYS, 0, 1);
        first(needsOneThatFails, Words.ALWAYS, 0, 1);
    }

    static void count() {
        Story one = Story.methods("a");
        bounds(one, Words.COUNT, 1, 4);
        first(one, Words.COUNT, 1, 2, 3, 4);
        for (int count = 1; count <= 4; count++) {
            SuiteRunner x = with(one, Words.COUNT, count).told();
            Words.run(x);
            Check.due("count " + count, x.report(0, Words.ENTERED), count);
        }
    }

    static void provider() {
        Story four = Story.methods("a").then(x -> {
            x.provider(0, 2);
            x.provider(1, 3);
            x.provider(2, 4);
            x.provider(3, 0);
        });
        bounds(four, Words.PROVIDER, -1, 3);
        first(four, Words.PROVIDER, -1, 0, 1, 2, 3);
        int[] due = {1, 2, 3, 4, 0};
        for (int p = -1; p <= 3; p++) {
            SuiteRunner x = with(four, Words.PROVIDER, p).told();
            Words.run(x);
            Check.due("rows of provider " + p, x.report(0, Words.ENTERED), due[p + 1]);
        }
        Check.same("none after one", four, with(with(four, Words.PROVIDER, 2), Words.PROVIDER, -1));
    }

    static void duration() {
        Story one = Story.methods("a");
        bounds(one, Words.DURATION, 1, 9);
        first(one, Words.DURATION, 1, 2, 9);
        for (int duration = 1; duration <= 9; duration++) {
            SuiteRunner x = with(one, Words.DURATION, duration).told();
            x.start();
            Check.due("duration " + duration, x.tick(100), 1 + duration);
        }
    }

    static void wanted() {
        Story returnsAndThrows = Story.methods("a").then(x -> {
            x.trait(0, Words.COUNT, 4);
            x.trait(0, Words.BEHAVIOUR, 2 << 3 | 3 << 6 | 4 << 9);
        });
        bounds(returnsAndThrows, Words.WANTED, 0, 3);
        first(returnsAndThrows, Words.WANTED, 0, 1, 2, 3);
        for (int wanted = 0; wanted <= 3; wanted++) {
            SuiteRunner x = with(returnsAndThrows, Words.WANTED, wanted).told();
            Words.run(x);
            for (int j = 0; j < 4; j++) {
                int ended = x.event(x.event(-1) - 2 - 2 * j);
                Check.due("wanted " + wanted + ", invocation " + j, ended / 128 % 16, j == wanted ? 1 : 2);
            }
        }
    }

    /** Sixteen invocations of which so many pass. */
    private static Story passing(int passes) {
        return Story.methods("a").then(x -> {
            x.trait(0, Words.COUNT, 4);
            x.trait(0, Words.PROVIDER, 0);
            x.provider(0, 4);
            int behaviour = 0;
            // Deeds 0 to 5 are done twice, by j and by j + 10; 6 to 9 once.
            int fails = 16 - passes;
            for (int j = 0; j < 6 && fails >= 2; j++, fails -= 2) {
                behaviour |= 1 << 3 * j;
            }
            for (int j = 6; j < 10 && fails >= 1; j++, fails--) {
                behaviour |= 1 << 3 * j;
            }
            x.trait(0, Words.BEHAVIOUR, behaviour);
        });
    }

    private static int statusAt(int passes, int percent) {
        SuiteRunner x = with(passing(passes), Words.PERCENT, percent).told();
        Words.run(x);
        Check.due("passes", x.report(0, Words.PASSES), passes);
        return x.report(0, Words.STATUS);
    }

    static void percent() {
        bounds(passing(0), Words.PERCENT, 1, 100);
        bounds(passing(8), Words.PERCENT, 1, 100);
        first(passing(15), Words.PERCENT, 100, 1, 50, 93);
        for (int passes = 0; passes <= 16; passes++) {
            for (int percent = 1; percent <= 100; percent++) {
                boolean enough = passes == 16 || 100.0 * passes / 16 >= percent;
                Check.due(passes + " of 16 at " + percent, statusAt(passes, percent), enough ? Words.PASSED : Words.FAILED);
            }
        }
    }

    static void behaviourIsAnyInt() {
        Story ten = Story.methods("a").then(x -> {
            x.trait(0, Words.COUNT, 4);
            x.trait(0, Words.PROVIDER, 0);
            x.provider(0, 3);
        });
        first(ten, Words.BEHAVIOUR, 0, 1, 5, 1 << 27, LEAST_INT + 5, GREATEST_INT - 6);
        for (int bit = 0; bit < 32; bit++) {
            Check.yes("bit " + bit, ten.told().trait(0, Words.BEHAVIOUR, 1 << bit));
        }
        int[] any = {LEAST_INT, GREATEST_INT, -1, 0, 1, -2, LEAST_INT + 1, GREATEST_INT - 1};
        for (int v : any) {
            Check.yes("behaviour " + v, ten.told().trait(0, Words.BEHAVIOUR, v));
        }
        Check.same("the two highest bits are of no invocation", ten, with(ten, Words.BEHAVIOUR, 3 << 30));
    }

    static void thereIsNoSuchMethod() {
        for (int wrong : new int[] {-1, 2, 3, 15, 16, 32, LEAST_INT, GREATEST_INT}) {
            Check.refused("method " + wrong, Story.methods("a", "b"), x -> x.trait(wrong, Words.DURATION, 5));
        }
        for (int wrong : new int[] {-1, 16, 32, LEAST_INT, GREATEST_INT}) {
            Check.refused("method " + wrong + " beside 16", Story.methods(16), x -> x.trait(wrong, Words.DURATION, 5));
        }
        Check.taken("the last one of two", Story.methods("a", "b"), x -> x.trait(1, Words.DURATION, 5));
        Check.taken("the last one of 16", Story.methods(16), x -> x.trait(15, Words.DURATION, 5));
    }

    /** A refused trait of one not yet there is not kept for it either. */
    static void notKeptForALaterMethod() {
        Story later = Story.methods("a").then(x -> x.method(0, Words.name("b")));
        Story spokenOfBefore = Story.methods("a").then(x -> {
            x.trait(1, Words.DURATION, 5);
            x.method(0, Words.name("b"));
        });
        Check.same("a later method", later, spokenOfBefore);
    }

    static void thereIsNoSuchTrait() {
        for (int wrong : new int[] {-1, 9, 10, 32, 40, LEAST_INT, GREATEST_INT}) {
            for (int v : new int[] {-1, 0, 1, 4}) {
                Check.refused("trait " + wrong, Story.methods("a", "b"), x -> x.trait(0, wrong, v));
            }
        }
        Check.taken("trait 0", Story.methods("b", "c"), x -> x.trait(0, 0, 1));
        Check.taken("trait 8", Story.methods("b", "c"), x -> x.trait(0, 8, 1));
    }

    static void isOfItsMethodAlone() {
        SuiteRunner x = Story.methods("a", "b", "c").then(y -> y.trait(1, Words.COUNT, 3)).told();
        Words.run(x);
        Check.due("before it", x.report(0, Words.ENTERED), 1);
        Check.due("its own", x.report(1, Words.ENTERED), 3);
        Check.due("behind it", x.report(2, Words.ENTERED), 1);
    }

    static void underWay() {
        int[][] seen = {{4, Words.PRIORITY, 9}, {0, Words.GROUPS, 2}, {5, Words.ALWAYS, 1}, {0, Words.COUNT, 4},
            {0, Words.PROVIDER, 0}, {0, Words.DURATION, 9}, {0, Words.WANTED, 2}, {1, Words.PERCENT, 100}, {0, Words.BEHAVIOUR, 5}};
        for (int[] each : seen) {
            Check.refusedUnderWay("trait " + each[1], x -> x.trait(each[0], each[1], each[2]));
        }
    }
}
