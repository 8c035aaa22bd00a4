/** Promise 9: select. Classes, groups included and groups excluded; other bits are not looked at. */
public final class SelectTest {
    /** Method m is of class m and in the groups whose bits m has. */
    private static final Story FOUR = Story.methods(4).then(x -> {
        for (int m = 0; m < 4; m++) {
            x.trait(m, Words.GROUPS, m);
        }
    });

    public static void main(String[] args) {
        Check.all(SelectTest.class);
    }

    private static int selected(Story story, int classes, int included, int excluded) {
        SuiteRunner x = story.told();
        Check.yes("select", x.select(classes, included, excluded));
        return x.selected();
    }

    static void classes() {
        for (int classes = 0; classes < 16; classes++) {
            Check.due("classes " + classes, selected(FOUR, classes, 0, 0), classes);
        }
    }

    /** "(classes 0: none is selected)". */
    static void noClass() {
        Check.taken("classes 0", FOUR, x -> x.select(0, 0, 0));
        Check.due("none", selected(FOUR, 0, 0, 0), 0);
        Check.due("none, though groups are included", selected(FOUR, 0, 63, 0), 0);
        Check.due("none can be run", FOUR.then(x -> x.select(0, 0, 0)).told().start(), SuiteRunner.NONE);
    }

    static void included() {
        Check.due("in group 0", selected(FOUR, 15, 1, 0), 0b1010);
        Check.due("in group 1", selected(FOUR, 15, 2, 0), 0b1100);
        Check.due("in one of both", selected(FOUR, 15, 3, 0), 0b1110);
        Check.due("in a group with no method", selected(FOUR, 15, 32, 0), 0);
        Check.due("in one of all groups", selected(FOUR, 15, 63, 0), 0b1110);
        Check.due("no group included is no condition", selected(FOUR, 15, 0, 0), 0b1111);
    }

    static void excluded() {
        Check.due("not in group 0", selected(FOUR, 15, 0, 1), 0b0101);
        Check.due("not in group 1", selected(FOUR, 15, 0, 2), 0b0011);
        Check.due("in none of both", selected(FOUR, 15, 0, 3), 0b0001);
        Check.due("in none of all groups", selected(FOUR, 15, 0, 63), 0b0001);
        Check.due("in 0 and not in 1", selected(FOUR, 15, 1, 2), 0b0010);
        Check.due("in and not in", selected(FOUR, 15, 1, 1), 0);
        Check.due("all three", selected(FOUR, 0b1011, 3, 2), 0b0010);
    }

    static void theFirstAndTheLastGroup() {
        for (int g = 0; g < 6; g++) {
            int set = 1 << g;
            Story one = Story.methods(2).then(x -> x.trait(1, Words.GROUPS, set));
            Check.due("in group " + g, selected(one, 15, set, 0), 2);
            Check.due("in the others", selected(one, 15, 63 & ~set, 0), 0);
            Check.due("not in group " + g, selected(one, 15, 0, set), 1);
            Check.due("not in the others", selected(one, 15, 0, 63 & ~set), 3);
        }
    }

    static void otherBitsAreNotLookedAt() {
        Story picked = FOUR.then(x -> x.select(5, 2, 1));
        for (int bit = 4; bit < 32; bit++) {
            int other = 1 << bit;
            Check.same("classes, bit " + bit, picked, FOUR.then(x -> x.select(5 | other, 2, 1)));
            if (bit >= 6) {
                Check.same("included, bit " + bit, picked, FOUR.then(x -> x.select(5, 2 | other, 1)));
                Check.same("excluded, bit " + bit, picked, FOUR.then(x -> x.select(5, 2, 1 | other)));
            }
        }
        Check.due("classes without any of the four", selected(FOUR, ~15, 0, 0), 0);
        Check.due("all bits of classes", selected(FOUR, -1, 0, 0), 15);
        Check.due("no group but other bits included", selected(FOUR, 15, ~63, 0), 15);
        Check.due("no group but other bits excluded", selected(FOUR, 15, 0, ~63), 15);
        Check.due("the lowest", selected(FOUR, Integer.MIN_VALUE, Integer.MIN_VALUE, Integer.MIN_VALUE), 0);
        Check.due("the greatest", selected(FOUR, Integer.MAX_VALUE, Integer.MAX_VALUE, 0), 0b1110);
    }

    static void atFirstAllClassesAndNoGroup() {
        Check.same("as at first", FOUR, FOUR.then(x -> x.select(15, 0, 0)));
        Check.differ("not as at first", FOUR, FOUR.then(x -> x.select(14, 0, 0)));
    }

    static void theLatestCounts() {
        Check.same("nothing is left of an earlier one", FOUR.then(x -> x.select(3, 0, 2)), FOUR.then(x -> {
            x.select(12, 2, 1);
            x.select(3, 0, 2);
        }));
    }

    static void bothPatternsBecomeEmpty() {
        for (boolean including : new boolean[] {true, false}) {
            Story typed = FOUR.then(x -> Words.typeAll(x, including, including ? "b|.*c" : ".*"));
            Check.due("none is selected", typed.told().selected(), 0);
            Check.same("the pattern is empty", FOUR, typed.then(x -> x.select(15, 0, 0)));
        }
        Story both = FOUR.then(x -> {
            Words.typeAll(x, true, "b");
            Words.typeAll(x, false, "a*");
            x.select(15, 0, 0);
        });
        Check.same("both are", FOUR, both);
    }

    static void thereIsNoAgainSetAnyMore() {
        Story again = FOUR.then(x -> {
            x.trait(2, Words.BEHAVIOUR, 1);
            Words.run(x);
            x.again();
        });
        Check.due("an again set", again.told().selected(), 4);
        Check.due("none any more", selected(again, 15, 0, 0), 15);
        Check.due("but what is picked counts", selected(again, 3, 0, 0), 3);
    }

    static void underWay() {
        Check.refusedUnderWay("classes", x -> x.select(13, 0, 0));
        Check.refusedUnderWay("no class", x -> x.select(0, 0, 0));
        Check.refusedUnderWay("included", x -> x.select(15, 2, 0));
        Check.refusedUnderWay("excluded", x -> x.select(15, 0, 2));
    }

    /** That it is refused under way leaves the patterns and the again set, too. */
    static void underWayNothingIsEmptied() {
        Story typed = Story.WORLD.then(x -> {
            Words.typeAll(x, true, ".*");
            Words.typeAll(x, false, "f");
            x.start();
        });
        Check.refused("with patterns", typed, x -> x.select(15, 0, 0));
        Story again = Story.WORLD.then(x -> {
            Words.run(x);
            x.again();
            x.start();
        });
        Check.refused("with an again set", again, x -> x.select(15, 0, 0));
    }
}
