/** Promise 8: type. The characters are a .. z, dot, * and |, at most 12 of them, and a * has something to stand behind. */
public final class TypeTest {
    private static final boolean[] BOTH = {true, false};
    private static final Story NAMES = Story.methods("a", "b", "ab", "aab", "ba", "abc", "z");

    public static void main(String[] args) {
        Check.all(TypeTest.class);
    }

    private static Story typed(boolean including, String pattern) {
        return NAMES.then(x -> Words.typeAll(x, including, pattern));
    }

    private static boolean isOneOfThose(int c) {
        return c >= 'a' && c <= 'z' || c == '.' || c == '*' || c == '|';
    }

    static void everyCharacter() {
        for (boolean including : BOTH) {
            for (int c = 0; c <= 0xffff; c++) {
                SuiteRunner x = new SuiteRunner();
                x.type(including, 'a');
                Check.due("character " + c, x.type(including, (char) c) ? 1 : 0, isOneOfThose(c) ? 1 : 0);
            }
        }
    }

    static void anotherCharacterIsRefused() {
        for (boolean including : BOTH) {
            for (char c : "`{AZ09 -/)+?[^\\}~\0\u00ff\u0161\u012a\u212a\uff41\uffff".toCharArray()) {
                Check.refused("character " + (int) c + " first", NAMES, x -> x.type(including, c));
                Check.refused("character " + (int) c + " behind a", typed(including, "a"), x -> x.type(including, c));
            }
        }
    }

    static void theFirstAndTheLastOfThose() {
        for (boolean including : BOTH) {
            for (char c : "az.|".toCharArray()) {
                Check.taken("character " + c, NAMES, x -> x.type(including, c));
            }
        }
    }

    static void twelveAreTheMost() {
        for (boolean including : BOTH) {
            String[] twelve = {"............", "abcdefghijkl", "a*a*a*a*a*a*", "||||||||||||", "ab|a.b|zzz|."};
            for (String pattern : twelve) {
                SuiteRunner x = new SuiteRunner();
                for (int i = 0; i < 12; i++) {
                    Check.yes(pattern + " at " + i, x.type(including, pattern.charAt(i)));
                }
                for (char c : "az.|".toCharArray()) {
                    Check.refused("13th behind " + pattern, typed(including, pattern), y -> y.type(including, c));
                }
            }
            Check.refused("* as 13th", typed(including, "............"), x -> x.type(including, '*'));
            Check.yes("* as 12th", typed(including, "...........").told().type(including, '*'));
        }
    }

    static void theTwelfthCounts() {
        SuiteRunner x = NAMES.told();
        Words.typeAll(x, true, "z*z*z*z*z*|a");
        Check.due("twelve characters", x.selected(), 0b1000001);
        x.type(true, 'b');
        Check.due("and not a 13th", x.selected(), 0b1000001);
    }

    static void aStarBehindNothing() {
        for (boolean including : BOTH) {
            Check.refused("* first", NAMES, x -> x.type(including, '*'));
            Check.refused("* first, the other has a", typed(!including, "a"), x -> x.type(including, '*'));
        }
    }

    static void aStarBehindABar() {
        for (boolean including : BOTH) {
            Check.refused("* behind |", typed(including, "|"), x -> x.type(including, '*'));
            Check.refused("* behind a|", typed(including, "a|"), x -> x.type(including, '*'));
            Check.refused("* behind a*|", typed(including, "a*|"), x -> x.type(including, '*'));
        }
    }

    static void aStarBehindAStar() {
        for (boolean including : BOTH) {
            Check.refused("* behind a*", typed(including, "a*"), x -> x.type(including, '*'));
            Check.refused("* behind .*", typed(including, ".*"), x -> x.type(including, '*'));
        }
    }

    static void aStarBehindALetterOrADot() {
        for (boolean including : BOTH) {
            Check.taken("a*", typed(including, "a"), x -> x.type(including, '*'));
            Check.taken("b*", typed(including, "ab"), x -> x.type(including, '*'));
            Check.taken("z*", typed(including, "z|z"), x -> x.type(including, '*'));
            Check.taken(".*", typed(including, "."), x -> x.type(including, '*'));
            Check.taken("a*b*", typed(including, "a*b"), x -> x.type(including, '*'));
        }
    }

    /** A * may be typed as first one of a pattern that was made empty no more than of a new one. */
    static void aStarAfterSelect() {
        for (boolean including : BOTH) {
            Story emptied = typed(including, "a").then(x -> x.select(15, 0, 0));
            Check.refused("* after select", emptied, x -> x.type(including, '*'));
            Check.same("as a new one", NAMES, emptied);
        }
    }

    static void roomAgainAfterSelect() {
        for (boolean including : BOTH) {
            SuiteRunner x = typed(including, "............").then(y -> y.select(15, 0, 0)).told();
            for (int i = 0; i < 12; i++) {
                Check.yes("character " + i, x.type(including, '.'));
            }
            Check.no("a 13th", x.type(including, '.'));
        }
    }

    static void thePatternsAreApart() {
        SuiteRunner x = NAMES.told();
        Words.typeAll(x, true, "a.*");
        Check.due("including", x.selected(), 0b0101101);
        Words.typeAll(x, false, ".*b");
        Check.due("but not excluding", x.selected(), 0b0100001);
        SuiteRunner full = typed(true, "............").told();
        Check.yes("one is full, the other not", full.type(false, 'a'));
    }

    static void underWay() {
        for (boolean including : BOTH) {
            Check.refusedUnderWay("type a", x -> x.type(including, 'a'));
            Check.refusedUnderWay("type .", x -> x.type(including, '.'));
        }
    }
}
