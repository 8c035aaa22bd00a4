/** Promise 5: needsGroup. The method and the group (0 .. 5) are there, and the need is not yet named. */
public final class NeedsGroupTest {
    /** Method m of six is in group m; method 6 is in none. */
    private static final Story SEVEN = Story.methods("a", "b", "c", "d", "e", "f", "g").then(x -> {
        for (int m = 0; m < 6; m++) {
            x.trait(m, Words.GROUPS, 1 << m);
        }
    });

    public static void main(String[] args) {
        Check.all(NeedsGroupTest.class);
    }

    static void groupsAre0To5() {
        for (int g = 0; g < 6; g++) {
            int group = g;
            Check.taken("group " + g, SEVEN, x -> x.needsGroup(6, group));
            Check.due("needs by group " + g, SEVEN.then(x -> x.needsGroup(6, group)).told().edges(6), 1 << g);
        }
        for (int wrong : new int[] {-1, 6, 7, 31, 32, 37, 64, Integer.MIN_VALUE, Integer.MAX_VALUE}) {
            Check.refused("group " + wrong, SEVEN, x -> x.needsGroup(6, wrong));
        }
    }

    static void allSixOfThem() {
        SuiteRunner x = SEVEN.told();
        Check.due("none at first", x.edges(6), 0);
        for (int g = 0; g < 6; g++) {
            Check.yes("group " + g, x.needsGroup(6, g));
            Check.due("needs", x.edges(6), (2 << g) - 1);
        }
    }

    static void theMethodIsNotThere() {
        for (int wrong : new int[] {-1, 7, 16, 32, Integer.MIN_VALUE, Integer.MAX_VALUE}) {
            Check.refused("method " + wrong, SEVEN, x -> x.needsGroup(wrong, 0));
        }
        Story sixteen = Story.methods(16).then(x -> x.trait(7, Words.GROUPS, 1));
        Check.refused("method 16 of 16", sixteen, x -> x.needsGroup(16, 0));
        Check.taken("method 15 of 16", sixteen, x -> x.needsGroup(15, 0));
        Check.taken("method 0 of 16", sixteen, x -> x.needsGroup(0, 0));
    }

    static void notKeptForALaterMethod() {
        SuiteRunner x = SEVEN.told();
        x.needsGroup(7, 0);
        x.method(0, Words.name("h"));
        Check.due("edges", x.edges(7), 0);
        Check.yes("it can name it now", x.needsGroup(7, 0));
    }

    static void itNamesItAlready() {
        Story named = SEVEN.then(x -> x.needsGroup(6, 2));
        Check.refused("group 2 already", named, x -> x.needsGroup(6, 2));
        Check.taken("but not group 1", named, x -> x.needsGroup(6, 1));
        Check.taken("nor does another name it", named, x -> x.needsGroup(5, 2));
        Story needed = SEVEN.then(x -> x.needs(6, 2));
        Check.yes("a method named is not a group named", needed.told().needsGroup(6, 2));
    }

    /** "All selected ones that are in a group that it names as needed (itself too, if it is)". */
    static void itselfToo() {
        Story itself = SEVEN.then(x -> x.needsGroup(3, 3));
        Check.due("its need", itself.told().edges(3), 8);
        Check.due("a circle", itself.told().circle(), 8);
        Check.due("it can't be run", itself.told().start(), 2);
    }

    static void aGroupWithNoMethod() {
        Story empty = Story.methods("a", "b").then(x -> x.needsGroup(0, 5));
        Check.due("no need", empty.told().edges(0), 0);
        Check.due("it dangles", empty.told().start(), 1);
    }

    static void aGroupWithAllMethods() {
        SuiteRunner x = Story.methods(16).told();
        for (int m = 0; m < 16; m++) {
            x.trait(m, Words.GROUPS, 32);
        }
        x.needsGroup(4, 5);
        Check.due("all sixteen", x.edges(4), 0xffff);
    }

    static void underWay() {
        Check.refusedUnderWay("needsGroup", x -> x.needsGroup(0, 1));
        Check.refusedUnderWay("needsGroup with no method in it", x -> x.needsGroup(0, 5));
    }
}
