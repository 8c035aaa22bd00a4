/** Patterns, selection, needs and circles: promises 8, 9, 15, 16 and 17. */
public final class SelectingTest {
    private static final Check CHECK = new Check("SelectingTest");

    public static void main(String[] args) {
        promise8Refusals();
        promise8Length();
        patternsMatch();
        patternsAreApart();
        promise9Select();
        promise15Selected();
        promise16Edges();
        promise17Circle();
        CHECK.end();
    }

    private static void promise8Refusals() {
        for (boolean including : new boolean[] {true, false}) {
            SuiteRunner x = new SuiteRunner();
            CHECK.no("* first", x.type(including, '*'));
            for (char c : "AZ09 `{?+\\\0".toCharArray()) {
                CHECK.no("char " + (int) c, x.type(including, c));
            }
            CHECK.no("char 0x161, a in its low byte", x.type(including, '\u0161'));
            CHECK.no("char 0xffff", x.type(including, '\uffff'));
            CHECK.yes("a", x.type(including, 'a'));
            CHECK.yes("* behind a letter", x.type(including, '*'));
            CHECK.no("* behind *", x.type(including, '*'));
            CHECK.yes("|", x.type(including, '|'));
            CHECK.no("* behind |", x.type(including, '*'));
            CHECK.yes("| behind |", x.type(including, '|'));
            CHECK.yes(".", x.type(including, '.'));
            CHECK.yes("* behind a dot", x.type(including, '*'));
            CHECK.yes("z", x.type(including, 'z'));
        }
    }

    private static void promise8Length() {
        SuiteRunner x = Words.withMethods("aaaaaaaa");
        for (int i = 0; i < 12; i++) {
            CHECK.yes("character " + i, x.type(true, i % 2 == 0 ? 'a' : '*'));
        }
        CHECK.no("the 13th", x.type(true, 'a'));
        CHECK.no("the 13th as |", x.type(true, '|'));
        CHECK.due("a*a*a*a*a*a*", x.selected(), 1);
        CHECK.yes("the other one is apart", x.type(false, 'b'));
        x.select(15, 0, 0);
        CHECK.yes("room again", x.type(true, 'a'));
        CHECK.due("a", x.selected(), 0);
    }

    private static void patternsMatch() {
        String[] names = {"a", "b", "ab", "abc", "abb", "aab", "ba", "zzzzzzzz"};
        Object[][] patterns = {
            {"a", 0b00000001}, {"ab", 0b00000100}, {".", 0b00000011}, {"..", 0b01000100}, {"a*", 0b00000001},
            {"a*b", 0b00100110}, {"ab*", 0b00010101}, {".*", 0b11111111}, {".*b", 0b00110110}, {"a.*", 0b00111101},
            {"a|b", 0b00000011}, {"|", 0}, {"||", 0}, {"a|", 0b00000001}, {"|a", 0b00000001}, {"x|ab|abc", 0b00001100},
            {"a*b*", 0b00110111}, {"a*a", 0b00000001}, {".*a.*", 0b01111101}, {"z*", 0b10000000}, {"........", 0b10000000},
            {".........", 0}, {"a*b*c*", 0b00111111}, {".*.*.*c", 0b00001000}, {"b*a*", 0b01000011}, {"c", 0}};
        for (Object[] each : patterns) {
            String pattern = (String) each[0];
            int matched = (Integer) each[1];
            SuiteRunner x = Words.withMethods(names);
            Words.typeAll(x, true, pattern);
            CHECK.due("including " + pattern, x.selected(), matched);
            x.select(15, 0, 0);
            Words.typeAll(x, false, pattern);
            CHECK.due("excluding " + pattern, x.selected(), 255 & ~matched);
        }
    }

    private static void patternsAreApart() {
        SuiteRunner x = Words.withMethods("a", "b", "ab");
        Words.typeAll(x, true, "a.*");
        Words.typeAll(x, false, "ab");
        CHECK.due("a.* but not ab", x.selected(), 1);
    }

    private static void promise9Select() {
        SuiteRunner x = new SuiteRunner();
        for (int m = 0; m < 4; m++) {
            x.method(m, Words.name("a"));
            x.trait(m, Words.GROUPS, m);
        }
        CHECK.yes("classes 5", x.select(5, 0, 0));
        CHECK.due("of classes 5", x.selected(), 5);
        x.select(15, 1, 0);
        CHECK.due("in group 0", x.selected(), 10);
        x.select(15, 3, 0);
        CHECK.due("in group 0 or 1", x.selected(), 14);
        x.select(15, 0, 2);
        CHECK.due("not in group 1", x.selected(), 3);
        x.select(15, 1, 2);
        CHECK.due("in group 0 and not in 1", x.selected(), 2);
        x.select(15, 1, 1);
        CHECK.due("in and not in", x.selected(), 0);
        CHECK.yes("no class", x.select(0, 0, 0));
        CHECK.due("none", x.selected(), 0);
        x.select(-1, 64, -64);
        CHECK.due("other bits are not looked at", x.selected(), 15);
        x.select(16 + 3, 64 + 2, 0);
        CHECK.due("nor beside those that count", x.selected(), 0);
        x.select(16 + 12, 64 + 2, 0);
        CHECK.due("nor there", x.selected(), 12);
        Words.typeAll(x, true, "b");
        CHECK.due("nothing matches", x.selected(), 0);
        x.select(15, 0, 0);
        CHECK.due("the pattern is empty", x.selected(), 15);
        Words.typeAll(x, false, "a");
        CHECK.due("all are excluded", x.selected(), 0);
        x.select(15, 0, 0);
        CHECK.due("that pattern is empty, too", x.selected(), 15);
    }

    private static void promise15Selected() {
        SuiteRunner x = Words.withMethods("a", "b");
        x.start();
        CHECK.due("while under way", x.selected(), 3);
        x.tick(100);
        x.select(15, 4, 0);
        CHECK.due("none in the group", x.selected(), 0);
        x.trait(1, Words.GROUPS, 4);
        CHECK.due("by the traits of now", x.selected(), 2);
        x.method(3, Words.name("c"));
        x.trait(2, Words.GROUPS, 12);
        CHECK.due("a later method", x.selected(), 6);
        CHECK.due("what was run stays", x.report(1, Words.STATUS), Words.PASSED);
    }

    private static void promise16Edges() {
        SuiteRunner x = new SuiteRunner();
        for (int m = 0; m < 5; m++) {
            x.method(m % 4, Words.name("a"));
        }
        x.trait(1, Words.GROUPS, 2);
        x.trait(2, Words.GROUPS, 6);
        x.needs(0, 3);
        x.needs(0, 4);
        x.needsGroup(0, 1);
        x.needsGroup(0, 2);
        CHECK.due("named and in groups", x.edges(0), 0b11110);
        CHECK.due("none", x.edges(4), 0);
        CHECK.due("not there", x.edges(5), 0);
        CHECK.due("-1", x.edges(-1), 0);
        CHECK.due("32", x.edges(32), 0);
        x.select(7, 0, 0);
        CHECK.due("of the selected ones only", x.edges(0), 0b10110);
        x.select(14, 0, 0);
        CHECK.due("of one that is not selected", x.edges(0), 0);
        x.select(15, 0, 4);
        CHECK.due("not of the excluded", x.edges(0), 0b11010);
    }

    private static void promise17Circle() {
        SuiteRunner x = new SuiteRunner();
        for (int m = 0; m < 16; m++) {
            x.method(m == 15 ? 1 : 0, Words.name("a"));
        }
        for (int m = 0; m < 15; m++) {
            x.needs(m, m + 1);
        }
        CHECK.due("a chain", x.circle(), 0);
        x.needs(15, 3);
        CHECK.due("those before the circle are not in it", x.circle(), 0xfff8);
        x.select(1, 0, 0);
        CHECK.due("a circle through one that is not selected is none", x.circle(), 0);
        x.select(15, 0, 0);
        x.needs(15, 0);
        CHECK.due("all sixteen", x.circle(), 0xffff);

        SuiteRunner y = Words.withMethods("a", "b", "c", "d");
        y.needs(3, 0);
        y.needs(0, 3);
        y.needs(1, 3);
        y.needs(2, 1);
        CHECK.due("two of them", y.circle(), 9);
        y.trait(2, Words.GROUPS, 8);
        y.needsGroup(1, 3);
        CHECK.due("by a group, too", y.circle(), 15);
        y.needsGroup(2, 3);
        y.select(15, 8, 0);
        CHECK.due("itself by a group", y.circle(), 4);
    }
}
