/** The again set: promise 13. */
public final class AgainTest {
    private static final Check CHECK = new Check("AgainTest");
    private static final int NONE = SuiteRunner.NONE;

    public static void main(String[] args) {
        refused();
        withAllThatIsNeeded();
        byWhatIsNeededNow();
        byWhatIsSelectedNow();
        selectEndsIt();
        emptyOneIsNone();
        CHECK.end();
    }

    private static void refused() {
        SuiteRunner x = Words.withMethods("a");
        x.trait(0, Words.BEHAVIOUR, 1);
        CHECK.due("none was over", x.again(), NONE);
        x.start();
        CHECK.due("under way", x.again(), NONE);
        x.tick(1);
        CHECK.due("under way still", x.again(), NONE);
        x.tick(1);
        CHECK.due("over", x.again(), 1);
        x.start();
        CHECK.due("under way anew", x.again(), NONE);
    }

    /** 0 passes; 1 needs 0 and passes; 2 needs 1 and fails; 3 needs 2 and is skipped; 4 passes. */
    private static SuiteRunner chain() {
        SuiteRunner x = Words.withMethods("a", "b", "c", "d", "e");
        x.needs(1, 0);
        x.needs(2, 1);
        x.needs(3, 2);
        x.trait(2, Words.BEHAVIOUR, 1);
        x.start();
        x.tick(100);
        return x;
    }

    private static void withAllThatIsNeeded() {
        SuiteRunner x = chain();
        CHECK.due("failed, skipped and needed", x.again(), 15);
        CHECK.due("selected", x.selected(), 15);
        CHECK.due("edges", x.edges(3), 4);
        CHECK.due("no edges of 4", x.edges(4), 0);
        x.start();
        CHECK.due("4 is not selected", x.report(4, Words.STATUS), Words.NOT_SELECTED);
        x.tick(100);
        x.method(0, Words.name("f"));
        CHECK.due("a later method is not in it", x.selected(), 15);
        x.trait(2, Words.BEHAVIOUR, 0);
        x.trait(3, Words.BEHAVIOUR, 5);
        x.start();
        x.tick(100);
        CHECK.due("one that asked to be skipped", x.again(), 15);
        x.trait(3, Words.BEHAVIOUR, 0);
        CHECK.due("stays, by the latest run", x.again(), 15);
    }

    private static void byWhatIsNeededNow() {
        SuiteRunner x = chain();
        x.needs(3, 4);
        CHECK.due("4 is needed now", x.again(), 31);
        SuiteRunner y = chain();
        y.needs(4, 3);
        CHECK.due("who needs them is not in it", y.again(), 15);
        SuiteRunner z = chain();
        z.trait(4, Words.GROUPS, 2);
        z.needsGroup(0, 1);
        CHECK.due("by a group and by others", z.again(), 31);
        SuiteRunner first = Words.withMethods("a", "b", "c");
        first.trait(0, Words.BEHAVIOUR, 1);
        first.needs(0, 1);
        first.needs(1, 2);
        first.start();
        first.tick(100);
        CHECK.due("what the first one needs", first.again(), 7);
    }

    private static void byWhatIsSelectedNow() {
        SuiteRunner x = chain();
        Words.typeAll(x, false, "b");
        CHECK.due("1 is not selected now, so it is no need", x.again(), 12);
        SuiteRunner y = chain();
        Words.typeAll(y, true, "a");
        CHECK.due("the failed ones are in it though they are not selected", y.again(), 12);
        CHECK.due("but none is selected", y.selected(), 0);
        CHECK.due("so none can be run", y.start(), NONE);
    }

    private static void selectEndsIt() {
        SuiteRunner x = chain();
        x.again();
        CHECK.due("again", x.selected(), 15);
        x.select(15, 0, 0);
        CHECK.due("select ends it", x.selected(), 31);
        CHECK.due("it can be had again", x.again(), 15);
        x.select(0, 0, 0);
        CHECK.due("the failed ones stay to be seen", x.again(), 12);
    }

    private static void emptyOneIsNone() {
        SuiteRunner x = chain();
        x.again();
        x.trait(2, Words.BEHAVIOUR, 0);
        x.start();
        x.tick(100);
        CHECK.due("still the old set", x.selected(), 15);
        CHECK.due("nothing failed", x.again(), 0);
        CHECK.due("so there is none", x.selected(), 31);
    }
}
