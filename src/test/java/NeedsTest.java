/** Promise 4: needs. Both methods are there, and the need is not yet named. */
public final class NeedsTest {
    private static final Story THREE = Story.methods("a", "b", "c");
    private static final int[] NEVER_THERE = {-1, -2, 16, 17, 31, 32, 33, 64, Integer.MIN_VALUE, Integer.MAX_VALUE};

    public static void main(String[] args) {
        Check.all(NeedsTest.class);
    }

    static void eachMayNameEach() {
        for (int m = 0; m < 3; m++) {
            for (int n = 0; n < 3; n++) {
                int from = m;
                int to = n;
                Check.taken(m + " needs " + n, THREE, x -> x.needs(from, to));
                SuiteRunner x = THREE.then(y -> y.needs(from, to)).told();
                for (int other = 0; other < 3; other++) {
                    Check.due("edges of " + other, x.edges(other), other == m ? 1 << n : 0);
                }
            }
        }
    }

    static void theFirstAndTheLastOf16() {
        SuiteRunner x = Story.methods(16).told();
        Check.due("none at first", x.edges(15), 0);
        for (int n = 0; n < 16; n++) {
            Check.yes("15 needs " + n, x.needs(15, n));
            Check.yes("0 needs " + n, x.needs(0, n));
        }
        Check.due("15 needs all", x.edges(15), 0xffff);
        Check.due("0 needs all", x.edges(0), 0xffff);
        for (int n = 0; n < 16; n++) {
            Check.no("15 names already " + n, x.needs(15, n));
            Check.no("0 names already " + n, x.needs(0, n));
        }
        Check.due("1 needs none", x.edges(1), 0);
    }

    static void theOneThatNeedsIsNotThere() {
        Check.refused("the first not there", THREE, x -> x.needs(3, 0));
        for (int wrong : NEVER_THERE) {
            Check.refused(wrong + " needs 0", THREE, x -> x.needs(wrong, 0));
            Check.refused(wrong + " needs 0 of 16", Story.methods(16), x -> x.needs(wrong, 0));
        }
    }

    static void theNeededOneIsNotThere() {
        Check.refused("the first not there", THREE, x -> x.needs(0, 3));
        for (int wrong : NEVER_THERE) {
            Check.refused("0 needs " + wrong, THREE, x -> x.needs(0, wrong));
            Check.refused("0 of 16 needs " + wrong, Story.methods(16), x -> x.needs(0, wrong));
        }
    }

    static void neitherIsThere() {
        Check.refused("3 needs itself", THREE, x -> x.needs(3, 3));
        Check.refused("-1 needs itself", THREE, x -> x.needs(-1, -1));
    }

    /** What was refused is not kept for methods that come later. */
    static void notKeptForALaterMethod() {
        SuiteRunner x = Story.methods("a").told();
        x.needs(0, 1);
        x.needs(1, 0);
        x.needs(1, 1);
        x.method(0, Words.name("b"));
        Check.due("edges of 0", x.edges(0), 0);
        Check.due("edges of 1", x.edges(1), 0);
        Check.yes("0 can name it now", x.needs(0, 1));
    }

    static void itNamesItAlready() {
        Story named = THREE.then(x -> x.needs(2, 0));
        Check.refused("2 needs 0 already", named, x -> x.needs(2, 0));
        Check.taken("but not 1", named, x -> x.needs(2, 1));
        Check.taken("nor does 0 need 2", named, x -> x.needs(0, 2));
        Check.taken("nor does 1 need 0", named, x -> x.needs(1, 0));
        Story inGroup = THREE.then(x -> {
            x.trait(0, Words.GROUPS, 1);
            x.needsGroup(2, 0);
        });
        Check.yes("a need by a group is not a method named", inGroup.told().needs(2, 0));
    }

    static void itselfIsACircle() {
        for (int m = 0; m < 3; m++) {
            int own = m;
            Check.taken("itself", THREE, x -> x.needs(own, own));
            Story circle = THREE.then(x -> x.needs(own, own));
            Check.due("in a circle", circle.told().circle(), 1 << m);
            Check.due("it can't be run", circle.told().start(), 2);
            Check.refused("itself already", circle, x -> x.needs(own, own));
        }
    }

    static void underWay() {
        Check.refusedUnderWay("needs", x -> x.needs(0, 1));
        Check.refusedUnderWay("needs of itself", x -> x.needs(3, 3));
    }
}
