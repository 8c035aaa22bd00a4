/** What is declared and refused: promises 2 to 7. */
public final class DeclaringTest {
    private static final Check CHECK = new Check("DeclaringTest");
    private static final int NONE = SuiteRunner.NONE;

    public static void main(String[] args) {
        promise2Method();
        promise2Names();
        promise3Bounds();
        promise3FirstTraits();
        promise4Needs();
        promise5NeedsGroup();
        promise6Provider();
        promise7Configuration();
        allRefusedWhileUnderWay();
        CHECK.end();
    }

    private static void promise2Method() {
        SuiteRunner x = new SuiteRunner();
        CHECK.due("class -1", x.method(-1, 1), NONE);
        CHECK.due("class 4", x.method(4, 1), NONE);
        CHECK.due("class 32", x.method(32, 1), NONE);
        for (int m = 0; m < 16; m++) {
            CHECK.due("method " + m, x.method(m % 4, 1), m);
        }
        CHECK.due("the 17th", x.method(0, 1), NONE);
        CHECK.due("all are selected", x.selected(), 0xffff);
        x.select(1, 0, 0);
        CHECK.due("those of class 0", x.selected(), 0x1111);
        x.select(8, 0, 0);
        CHECK.due("those of class 3", x.selected(), 0x8888);
    }

    private static void promise2Names() {
        SuiteRunner x = new SuiteRunner();
        long[] wrong = {0, 27, 31, -1, Long.MIN_VALUE, Long.MAX_VALUE, 1L << 5, 1 | 1L << 10, 1 | 27L << 5, 1 | 31L << 35,
            Words.name("abcdefgh") | 1L << 40, Words.name("abcdefgh") | 1L << 63, 1 | 1L << 40, 1 | 1L << 63, 1 | 1L << 35};
        for (long name : wrong) {
            CHECK.due("no name: " + name, x.method(0, name), NONE);
        }
        CHECK.due("a", x.method(0, 1), 0);
        CHECK.due("z", x.method(0, 26), 1);
        CHECK.due("zzzzzzzz", x.method(0, Words.name("zzzzzzzz")), 2);
        CHECK.due("the same name", x.method(0, 1), 3);
    }

    private static void promise3Bounds() {
        SuiteRunner x = Words.withMethods("a");
        int[][] bounds = {{-9, 9}, {0, 63}, {0, 1}, {1, 4}, {-1, 3}, {1, 9}, {0, 3}, {1, 100}};
        for (int which = 0; which < bounds.length; which++) {
            int least = bounds[which][0];
            int most = bounds[which][1];
            CHECK.yes("least of " + which, x.trait(0, which, least));
            CHECK.yes("most of " + which, x.trait(0, which, most));
            CHECK.no("below " + which, x.trait(0, which, least - 1));
            CHECK.no("above " + which, x.trait(0, which, most + 1));
            CHECK.no("far below " + which, x.trait(0, which, Integer.MIN_VALUE));
            CHECK.no("far above " + which, x.trait(0, which, Integer.MAX_VALUE));
        }
        CHECK.yes("any behaviour", x.trait(0, 8, Integer.MIN_VALUE) && x.trait(0, 8, Integer.MAX_VALUE) && x.trait(0, 8, -1));
        CHECK.no("trait -1", x.trait(0, -1, 1));
        CHECK.no("trait 9", x.trait(0, 9, 1));
        CHECK.no("method 1", x.trait(1, 0, 1));
        CHECK.no("method -1", x.trait(-1, 0, 1));
        CHECK.no("method 16", x.trait(16, 0, 1));
    }

    private static void promise3FirstTraits() {
        SuiteRunner x = Words.withMethods("a");
        x.provider(0, 4);
        x.provider(1, 4);
        x.select(15, 63, 0);
        CHECK.due("in no group", x.selected(), 0);
        x.select(15, 0, 0);
        x.start();
        CHECK.due("one invocation of one tick", x.tick(9), 2);
        CHECK.due("passes", x.report(0, Words.PASSES), 1);
        CHECK.due("skips", x.report(0, Words.SKIPS), 0);
        x.trait(0, Words.DURATION, 3);
        CHECK.no("refused", x.trait(0, Words.DURATION, 10));
        x.start();
        CHECK.due("what is refused changes nothing", x.tick(99), 4);
    }

    private static void promise4Needs() {
        SuiteRunner x = Words.withMethods("a", "b", "c");
        CHECK.yes("2 needs 0", x.needs(2, 0));
        CHECK.yes("2 needs 1", x.needs(2, 1));
        CHECK.no("already", x.needs(2, 0));
        CHECK.yes("0 needs 2", x.needs(0, 2));
        CHECK.no("3 is not there", x.needs(3, 0));
        CHECK.no("nor as needed", x.needs(0, 3));
        CHECK.no("-1", x.needs(-1, 0));
        CHECK.no("-1 as needed", x.needs(0, -1));
        CHECK.no("33 as needed", x.needs(1, 33));
        CHECK.due("edges", x.edges(2), 3);
        CHECK.due("edges of 1", x.edges(1), 0);
        CHECK.yes("itself", x.needs(1, 1));
        CHECK.due("is a circle", x.circle() & 2, 2);
        CHECK.no("itself already", x.needs(1, 1));
    }

    private static void promise5NeedsGroup() {
        SuiteRunner x = Words.withMethods("a", "b", "c");
        x.trait(0, Words.GROUPS, 32);
        x.trait(1, Words.GROUPS, 33);
        CHECK.yes("2 needs group 5", x.needsGroup(2, 5));
        CHECK.no("already", x.needsGroup(2, 5));
        CHECK.no("group 6", x.needsGroup(2, 6));
        CHECK.no("group -1", x.needsGroup(2, -1));
        CHECK.no("group 37", x.needsGroup(2, 37));
        CHECK.no("method 3", x.needsGroup(3, 0));
        CHECK.no("method -1", x.needsGroup(-1, 0));
        CHECK.due("edges", x.edges(2), 3);
        CHECK.yes("0 needs group 0", x.needsGroup(0, 0));
        CHECK.due("edges of 0", x.edges(0), 2);
        CHECK.yes("1 needs group 0", x.needsGroup(1, 0));
        CHECK.due("itself, too", x.edges(1), 2);
    }

    private static void promise6Provider() {
        SuiteRunner x = Words.withMethods("a");
        CHECK.no("provider -1", x.provider(-1, 1));
        CHECK.no("provider 4", x.provider(4, 1));
        CHECK.no("-2 rows", x.provider(0, -2));
        CHECK.no("5 rows", x.provider(0, 5));
        for (int p = 0; p < 4; p++) {
            x.trait(0, Words.PROVIDER, p);
            x.start();
            x.tick(100);
            CHECK.due("one row at first", x.report(0, Words.ENTERED), 1);
            for (int rows = 0; rows <= 4; rows++) {
                CHECK.yes("rows " + rows, x.provider(p, rows));
                x.start();
                x.tick(100);
                CHECK.due("invocations for " + rows, x.report(0, Words.ENTERED), rows);
                CHECK.due("status for " + rows, x.report(0, Words.STATUS), Words.PASSED);
            }
            CHECK.yes("broken", x.provider(p, -1));
            x.start();
            CHECK.due("ticks with a broken one", x.tick(100), 1);
            CHECK.due("status with a broken one", x.report(0, Words.STATUS), Words.SKIPPED);
        }
    }

    private static void promise7Configuration() {
        SuiteRunner x = Words.withMethods("a");
        CHECK.due("level -1", x.configuration(-1, true, 0, 0), NONE);
        CHECK.due("level 3", x.configuration(3, true, 0, 0), NONE);
        for (int level = 0; level < 3; level++) {
            CHECK.due("class -1", x.configuration(level, true, -1, 0), NONE);
            CHECK.due("class 4", x.configuration(level, true, 4, 0), NONE);
        }
        for (int c = 0; c < 8; c++) {
            CHECK.due("configuration " + c, x.configuration(c % 3, c % 2 == 0, c % 4, -c), c);
        }
        CHECK.due("the ninth", x.configuration(0, true, 0, 0), NONE);
    }

    private static void allRefusedWhileUnderWay() {
        SuiteRunner x = Words.withMethods("a", "b");
        x.trait(0, Words.GROUPS, 1);
        x.start();
        for (int i = 0; i < 2; i++) {
            CHECK.yes("under way", x.running());
            CHECK.due("method", x.method(0, 1), NONE);
            CHECK.no("trait", x.trait(0, 0, 1));
            CHECK.no("needs", x.needs(1, 0));
            CHECK.no("needsGroup", x.needsGroup(1, 0));
            CHECK.no("provider", x.provider(0, 1));
            CHECK.due("configuration", x.configuration(0, true, 0, 0), NONE);
            CHECK.no("type", x.type(true, 'a'));
            CHECK.no("type excluding", x.type(false, 'a'));
            CHECK.no("select", x.select(1, 0, 0));
            CHECK.no("options", x.options(3, true, true, true, true));
            CHECK.due("start", x.start(), NONE);
            CHECK.due("again", x.again(), NONE);
            CHECK.due("edges", x.edges(1), 0);
            x.tick(1);
        }
        x.tick(100);
        CHECK.due("time goes on as it was", x.report(1, Words.ENDED), 3);
        CHECK.yes("then needs", x.needs(1, 0) && x.needsGroup(1, 0));
        CHECK.due("then a method has the next number", x.method(0, 1), 2);
        CHECK.due("then a configuration is the first", x.configuration(0, true, 0, 0), 0);
        CHECK.due("no pattern, no selection came about", x.selected(), 7);
    }
}
