/** Promise 15: selected. The set of methods that would be selected now. */
public final class SelectedTest {
    public static void main(String[] args) {
        Check.all(SelectedTest.class);
    }

    static void fromNoneTo16() {
        for (int count = 0; count <= 16; count++) {
            Check.due(count + " methods", Story.methods(count).told().selected(), (1 << count) - 1);
        }
    }

    /** Each condition leaves out what the others would let in. */
    static void eachConditionByItself() {
        Story two = Story.methods("a", "b").then(x -> {
            x.method(1, Words.name("ab"));
            x.trait(0, Words.GROUPS, 1);
            x.trait(1, Words.GROUPS, 6);
            x.trait(2, Words.GROUPS, 5);
        });
        Check.due("all", two.told().selected(), 0b111);
        Check.due("class", two.then(x -> x.select(1, 0, 0)).told().selected(), 0b011);
        Check.due("excluded", two.then(x -> x.select(15, 0, 4)).told().selected(), 0b001);
        Check.due("included", two.then(x -> x.select(15, 1, 0)).told().selected(), 0b101);
        Check.due("including", two.then(x -> Words.typeAll(x, true, ".")).told().selected(), 0b011);
        Check.due("excluding", two.then(x -> Words.typeAll(x, false, ".")).told().selected(), 0b100);
        Story again = two.then(x -> {
            x.trait(1, Words.BEHAVIOUR, 1);
            Words.run(x);
            x.again();
        });
        Check.due("again", again.told().selected(), 0b010);
        Check.due("all conditions together", two.then(x -> {
            x.select(1, 3, 4);
            Words.typeAll(x, true, "a*");
            Words.typeAll(x, false, "aa");
        }).told().selected(), 0b001);
    }

    /** Being in a group excluded counts more than being in one included, in whatever order. */
    static void inAGroupIncludedAndInOneExcluded() {
        SuiteRunner x = Story.methods("a").told();
        x.trait(0, Words.GROUPS, 63);
        x.select(15, 31, 32);
        Check.due("the last is excluded", x.selected(), 0);
        x.select(15, 62, 1);
        Check.due("the first is excluded", x.selected(), 0);
    }

    static void now() {
        SuiteRunner x = Story.methods("a", "b").told();
        Words.run(x);
        x.select(15, 4, 0);
        Check.due("none in the group", x.selected(), 0);
        x.trait(1, Words.GROUPS, 4);
        Check.due("by the traits of now", x.selected(), 2);
        x.method(3, Words.name("c"));
        x.trait(2, Words.GROUPS, 12);
        Check.due("a later method", x.selected(), 6);
        Check.due("what was run stays", x.report(1, Words.STATUS), Words.PASSED);
        x.trait(1, Words.GROUPS, 0);
        Check.due("no more in it", x.selected(), 4);
    }

    static void underWayAndOver() {
        SuiteRunner x = Story.methods("a", "b").told();
        x.start();
        Check.due("started", x.selected(), 3);
        x.tick(2);
        Check.due("one has ended", x.selected(), 3);
        x.tick(100);
        Check.due("over", x.selected(), 3);
    }

    static void askingChangesNothing() {
        Check.same("asked", Story.WORLD, Story.WORLD.then(SuiteRunner::selected));
    }
}
