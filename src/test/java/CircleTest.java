/** Promise 17: circle. The selected methods that need themselves, directly or by others. */
public final class CircleTest {
    public static void main(String[] args) {
        Check.all(CircleTest.class);
    }

    /** 0 needs 1, 1 needs 2, and so on; only the last one is of class 1. */
    private static SuiteRunner chainOf16() {
        SuiteRunner x = new SuiteRunner();
        for (int m = 0; m < 16; m++) {
            x.method(m == 15 ? 1 : 0, Words.name("a"));
        }
        for (int m = 0; m < 15; m++) {
            x.needs(m, m + 1);
        }
        return x;
    }

    static void none() {
        Check.due("nothing declared", new SuiteRunner().circle(), 0);
        Check.due("no needs", Story.methods(16).told().circle(), 0);
        Check.due("a chain", chainOf16().circle(), 0);
    }

    static void directly() {
        for (int m = 0; m < 16; m++) {
            SuiteRunner x = Story.methods(16).told();
            x.needs(m, m);
            Check.due("itself " + m, x.circle(), 1 << m);
        }
    }

    static void byAllSixteen() {
        SuiteRunner x = chainOf16();
        x.needs(15, 0);
        Check.due("all sixteen", x.circle(), 0xffff);
        SuiteRunner back = Story.methods(16).told();
        for (int m = 0; m < 16; m++) {
            back.needs((m + 1) % 16, m);
        }
        Check.due("the other way round", back.circle(), 0xffff);
    }

    static void thoseBeforeAndBehindItAreNotInIt() {
        SuiteRunner x = chainOf16();
        x.needs(15, 3);
        Check.due("before it", x.circle(), 0xfff8);
        SuiteRunner y = chainOf16();
        y.needs(9, 0);
        Check.due("behind it", y.circle(), 0x03ff);
    }

    static void throughOneThatIsNotSelected() {
        SuiteRunner x = chainOf16();
        x.needs(15, 0);
        x.select(1, 0, 0);
        Check.due("is none", x.circle(), 0);
        x.needs(4, 4);
        Check.due("but another is", x.circle(), 16);
        x.select(2, 0, 0);
        Check.due("none that is selected", x.circle(), 0);
        x.select(0, 0, 0);
        Check.due("none is selected", x.circle(), 0);
    }

    static void twoOfThem() {
        SuiteRunner x = Words.withMethods("a", "b", "c", "d", "e");
        x.needs(0, 3);
        x.needs(3, 0);
        x.needs(1, 4);
        x.needs(4, 1);
        x.needs(2, 0);
        x.needs(2, 1);
        Check.due("apart", x.circle(), 0b11011);
        x.needs(0, 2);
        Check.due("one more in one of them", x.circle(), 0b11111);
    }

    static void byAGroup() {
        SuiteRunner y = Words.withMethods("a", "b", "c", "d");
        y.needs(3, 0);
        y.needs(0, 3);
        y.needs(1, 3);
        y.needs(2, 1);
        Check.due("two of them", y.circle(), 9);
        y.trait(2, Words.GROUPS, 8);
        y.needsGroup(1, 3);
        Check.due("by a group, too", y.circle(), 15);
        y.needsGroup(2, 3);
        y.select(15, 8, 0);
        Check.due("itself by a group", y.circle(), 4);
        y.trait(2, Words.GROUPS, 0);
        Check.due("no more in it", y.circle(), 0);
    }

    static void askingChangesNothing() {
        Story circle = Story.WORLD.then(x -> x.needs(0, 0));
        Check.same("asked", circle, circle.then(SuiteRunner::circle));
    }
}
