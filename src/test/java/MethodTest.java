/** Promise 2: method. Its class is 0 .. 3, its name a name, and there are at most 16. */
public final class MethodTest {
    private static final int NONE = SuiteRunner.NONE;
    private static final long A = Words.name("a");

    public static void main(String[] args) {
        Check.all(MethodTest.class);
    }

    static void answersItsNumber() {
        SuiteRunner x = new SuiteRunner();
        for (int m = 0; m < 16; m++) {
            Check.due("selected before " + m, x.selected(), (1 << m) - 1);
            Check.due("status before " + m, x.report(m, Words.STATUS), NONE);
            Check.due("method " + m, x.method(m % 4, A), m);
            Check.due("status of " + m, x.report(m, Words.STATUS), 0);
        }
        Check.due("all are selected", x.selected(), 0xffff);
    }

    static void thereAreAtMost16() {
        Check.taken("the 16th", Story.methods(15), x -> x.method(3, A), 15);
        for (int cls = 0; cls < 4; cls++) {
            int of = cls;
            Check.refused("a 17th of class " + cls, Story.methods(16), x -> x.method(of, A), NONE);
        }
        SuiteRunner x = Story.methods(16).told();
        x.method(0, A);
        Check.due("nor later", x.method(0, A), NONE);
        Check.due("there is no method 16", x.report(16, Words.STATUS), NONE);
    }

    static void theClassIs0To3() {
        for (int cls = 0; cls < 4; cls++) {
            int of = cls;
            Check.taken("class " + cls, Story.NEW, x -> x.method(of, A), 0);
            SuiteRunner x = Story.NEW.then(y -> y.method(of, A)).told();
            for (int picked = 0; picked < 4; picked++) {
                x.select(1 << picked, 0, 0);
                Check.due("of class " + cls + " in class " + picked, x.selected(), picked == cls ? 1 : 0);
            }
        }
        for (int wrong : new int[] {-1, 4, 5, 15, 32, 33, -4, Integer.MIN_VALUE, Integer.MAX_VALUE}) {
            Check.refused("class " + wrong, Story.NEW, x -> x.method(wrong, A), NONE);
            Check.refused("class " + wrong + " as second", Story.methods("a"), x -> x.method(wrong, A), NONE);
        }
    }

    static void aNameHas1To8Letters() {
        for (int length = 1; length <= 8; length++) {
            String letters = "hgfedcba".substring(0, length);
            Check.taken(letters, Story.NEW, x -> x.method(0, Words.name(letters)), 0);
            SuiteRunner x = Story.methods(letters).told();
            Words.typeAll(x, true, letters);
            Check.due("it has the letters of " + letters, x.selected(), 1);
        }
        Check.refused("no letter", Story.NEW, x -> x.method(0, 0), NONE);
        for (int length = 9; length <= 12; length++) {
            String letters = "aaaaaaaaaaaa".substring(0, length);
            Check.refused(length + " letters", Story.NEW, x -> x.method(0, Words.name(letters)), NONE);
        }
    }

    static void aLetterIs1To26() {
        for (int place = 0; place < 8; place++) {
            long others = Words.name("mmmmmmmm") & ~(31L << 5 * place);
            for (long letter = 0; letter < 32; letter++) {
                long name = others | letter << 5 * place;
                // At the last place 0 is no letter but the end of a name of seven.
                boolean right = letter <= 26 && (letter >= 1 || place == 7);
                Check.due("letter " + letter + " at " + place, new SuiteRunner().method(0, name), right ? 0 : NONE);
            }
            long above = others | 27L << 5 * place;
            Check.refused("letter 27 at " + place, Story.NEW, x -> x.method(0, above), NONE);
        }
        Check.refused("27 alone", Story.NEW, x -> x.method(0, 27), NONE);
        Check.refused("31 alone", Story.NEW, x -> x.method(0, 31), NONE);
    }

    static void noLetterIsLeftOut() {
        for (int place = 1; place < 8; place++) {
            long alone = 1L << 5 * place;
            Check.refused("none before letter " + place, Story.NEW, x -> x.method(0, alone), NONE);
            if (place > 1) {
                Check.refused("a gap before letter " + place, Story.NEW, x -> x.method(0, 1 | alone), NONE);
            }
        }
    }

    static void noOtherBitIsSet() {
        long eight = Words.name("zzzzzzzz");
        Check.due("no other bit", new SuiteRunner().method(0, eight), 0);
        for (int bit = 40; bit < 64; bit++) {
            long other = 1L << bit;
            Check.refused("bit " + bit + " beside eight letters", Story.NEW, x -> x.method(0, eight | other), NONE);
            Check.refused("bit " + bit + " beside one letter", Story.NEW, x -> x.method(0, 1 | other), NONE);
            Check.refused("bit " + bit + " alone", Story.NEW, x -> x.method(0, other), NONE);
        }
        Check.refused("all bits", Story.NEW, x -> x.method(0, -1), NONE);
        Check.refused("the lowest", Story.NEW, x -> x.method(0, Long.MIN_VALUE), NONE);
        Check.refused("the greatest", Story.NEW, x -> x.method(0, Long.MAX_VALUE), NONE);
    }

    static void theFirstLetterIsInTheLowestBits() {
        SuiteRunner x = new SuiteRunner();
        x.method(0, 1 | 2 << 5);
        Words.typeAll(x, true, "ba");
        Check.due("it is not ba", x.selected(), 0);
        Words.typeAll(x, true, "|ab");
        Check.due("it is ab", x.selected(), 1);
    }

    static void equalOnesAreTwo() {
        Check.taken("the same class and name", Story.methods("a"), x -> x.method(0, A), 1);
    }

    static void whatIsRefusedTakesNoNumber() {
        SuiteRunner x = Story.methods("a").told();
        x.method(4, A);
        x.method(0, 0);
        Check.due("the next number", x.method(0, A), 1);
    }

    static void underWay() {
        Check.refusedUnderWay("method", x -> x.method(0, A), 8, NONE);
    }
}
