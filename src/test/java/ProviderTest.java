/** Promise 6: provider. Its number is 0 .. 3, its rows 0 .. 4 or -1, and it has one row at first. */
public final class ProviderTest {
    /** Method m is fed by provider m. */
    private static final Story FOUR = Story.methods("a", "b", "c", "d").then(x -> {
        for (int m = 0; m < 4; m++) {
            x.trait(m, Words.PROVIDER, m);
        }
    });

    public static void main(String[] args) {
        Check.all(ProviderTest.class);
    }

    static void providersAre0To3() {
        for (int p = 0; p < 4; p++) {
            int number = p;
            Check.taken("provider " + p, FOUR, x -> x.provider(number, 2));
            SuiteRunner x = FOUR.then(y -> y.provider(number, 2)).told();
            Words.run(x);
            for (int m = 0; m < 4; m++) {
                Check.due("rows of " + m, x.report(m, Words.ENTERED), m == p ? 2 : 1);
            }
        }
        for (int wrong : new int[] {-1, 4, 5, 32, Integer.MIN_VALUE, Integer.MAX_VALUE}) {
            Check.refused("provider " + wrong, FOUR, x -> x.provider(wrong, 2));
        }
    }

    static void rowsAre0To4() {
        for (int rows = 0; rows <= 4; rows++) {
            int count = rows;
            for (int p = 0; p < 4; p++) {
                int number = p;
                Check.yes("rows " + rows, FOUR.told().provider(number, count));
                SuiteRunner x = FOUR.then(y -> y.provider(number, count)).told();
                Words.run(x);
                Check.due("invocations for " + rows, x.report(p, Words.ENTERED), rows);
                Check.due("status for " + rows, x.report(p, Words.STATUS), Words.PASSED);
            }
        }
    }

    static void brokenIsMinus1() {
        for (int p = 0; p < 4; p++) {
            int number = p;
            Check.taken("broken", FOUR, x -> x.provider(number, -1));
            SuiteRunner x = FOUR.then(y -> y.provider(number, -1)).told();
            Words.run(x);
            Check.report("broken", x, p, Words.SKIPPED, 0, 0, 0, 0, p + 1, p + 1);
        }
    }

    static void otherRowsAreRefused() {
        for (int kept = -1; kept <= 4; kept++) {
            int rows = kept;
            for (int wrong : new int[] {-2, 5, 6, 100, Integer.MIN_VALUE, Integer.MAX_VALUE}) {
                Check.refused(wrong + " rows after " + kept, FOUR.then(x -> x.provider(3, rows)), x -> x.provider(3, wrong));
            }
        }
    }

    static void oneRowAtFirst() {
        for (int p = 0; p < 4; p++) {
            int number = p;
            Check.same("one row at first", FOUR, FOUR.then(x -> x.provider(number, 1)));
        }
    }

    static void theLatestCounts() {
        Check.same("broken, then mended", FOUR, FOUR.then(x -> {
            x.provider(2, -1);
            x.provider(2, 4);
            x.provider(2, 1);
        }));
        Check.yes("the same once more", FOUR.told().provider(2, 1));
    }

    static void underWay() {
        Check.refusedUnderWay("provider", x -> x.provider(0, 4));
        Check.refusedUnderWay("provider broken", x -> x.provider(0, -1));
    }
}
