/** Promise 16: edges. The needs that a method would have now; 0 when it is not selected, or there is none. */
public final class EdgesTest {
    /** Method 0 names 3 and 4 and groups 1 and 2; 1 is in group 1, 2 in both. Method 4 is of class 0, as 0 is. */
    private static final Story FIVE = Story.methods(5).then(x -> {
        x.trait(1, Words.GROUPS, 2);
        x.trait(2, Words.GROUPS, 6);
        x.needs(0, 3);
        x.needs(0, 4);
        x.needsGroup(0, 1);
        x.needsGroup(0, 2);
    });

    public static void main(String[] args) {
        Check.all(EdgesTest.class);
    }

    static void namedAndInGroups() {
        Check.due("all four", FIVE.told().edges(0), 0b11110);
        Check.due("one that names none", FIVE.told().edges(4), 0);
        Check.due("needed and in a group, told once", FIVE.then(x -> x.needs(0, 2)).told().edges(0), 0b11110);
    }

    static void thereIsNoSuchMethod() {
        SuiteRunner x = FIVE.told();
        for (int wrong : new int[] {-1, 5, 15, 16, 31, 32, 64, Integer.MIN_VALUE, Integer.MAX_VALUE}) {
            Check.due("edges of " + wrong, x.edges(wrong), 0);
        }
        SuiteRunner full = Story.methods(16).then(y -> y.needs(0, 15)).then(y -> y.needs(15, 14)).told();
        Check.due("the first of 16", full.edges(0), 1 << 15);
        Check.due("the last of 16", full.edges(15), 1 << 14);
        Check.due("the one behind", full.edges(16), 0);
        Check.due("the one before", full.edges(-1), 0);
        Check.due("32 is not 0", full.edges(32), 0);
    }

    static void itIsNotSelected() {
        Check.due("by its class", FIVE.then(x -> x.select(14, 0, 0)).told().edges(0), 0);
        Check.due("by groups", FIVE.then(x -> x.select(15, 6, 0)).told().edges(0), 0);
        Check.due("by an again set", FIVE.then(x -> {
            x.trait(1, Words.BEHAVIOUR, 1);
            x.trait(0, Words.ALWAYS, 1);
            Words.run(x);
            x.again();
        }).told().edges(0), 0);
    }

    static void ofTheSelectedOnesOnly() {
        Check.due("3 is not", FIVE.then(x -> x.select(7, 0, 0)).told().edges(0), 0b10110);
        Check.due("2 is not", FIVE.then(x -> x.select(15, 0, 4)).told().edges(0), 0b11010);
        Check.due("only 4 is", FIVE.then(x -> x.select(1, 0, 0)).told().edges(0), 0b10000);
        Check.due("none is", FIVE.then(x -> {
            x.trait(0, Words.GROUPS, 8);
            x.select(15, 8, 0);
        }).told().edges(0), 0);
    }

    static void itself() {
        Check.due("by its name", FIVE.then(x -> x.needs(4, 4)).told().edges(4), 0b10000);
        Check.due("by its group", FIVE.then(x -> x.needsGroup(2, 2)).told().edges(2), 0b00100);
    }

    /** Needs are direct ones: those of the needed are not told. */
    static void notByOthers() {
        Check.due("a chain", FIVE.then(x -> x.needs(1, 0)).told().edges(1), 1);
    }

    static void now() {
        SuiteRunner x = FIVE.told();
        x.trait(2, Words.GROUPS, 0);
        Check.due("no more in the groups", x.edges(0), 0b11010);
        x.trait(4, Words.GROUPS, 4);
        x.start();
        Check.due("while under way", x.edges(0), 0b11010);
        Words.rest(x);
        Check.due("when over", x.edges(0), 0b11010);
    }

    static void askingChangesNothing() {
        Check.same("asked", Story.WORLD, Story.WORLD.then(x -> x.edges(2)));
    }
}
