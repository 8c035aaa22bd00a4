/** Which names a pattern matches: the term behind promises 8 and 15. */
public final class PatternsTest {
    private static final String[] NAMES = {"a", "b", "ab", "abc", "abb", "aab", "ba", "zzzzzzzz"};
    private static final int ALL = 0b11111111;

    public static void main(String[] args) {
        Check.all(PatternsTest.class);
    }

    private static void matches(String pattern, int matched) {
        SuiteRunner x = Words.withMethods(NAMES);
        Words.typeAll(x, true, pattern);
        Check.due("including " + pattern, x.selected(), matched);
        x.select(15, 0, 0);
        Words.typeAll(x, false, pattern);
        Check.due("excluding " + pattern, x.selected(), ALL & ~matched);
    }

    static void lettersAndDots() {
        matches("a", 0b00000001);
        matches("ab", 0b00000100);
        matches("abc", 0b00001000);
        matches("c", 0);
        matches(".", 0b00000011);
        matches("..", 0b01000100);
        matches(".b", 0b00000100);
        matches("a.", 0b00000100);
    }

    /** Not a part of it: neither its beginning nor its end nor its middle. */
    static void allOfTheName() {
        matches("bc", 0);
        matches("z", 0);
        matches("zzzzzzz", 0);
        matches("zzzzzzzz", 0b10000000);
        matches("zzzzzzzzz", 0);
        matches(".......", 0);
        matches("........", 0b10000000);
        matches(".........", 0);
    }

    static void noneOneOrMore() {
        matches("a*", 0b00000001);
        matches("a*b", 0b00100110);
        matches("ab*", 0b00010101);
        matches("a*b*", 0b00110111);
        matches("b*a*", 0b01000011);
        matches("a*b*c*", 0b00111111);
        matches("a*a", 0b00000001);
        matches("aa*", 0b00000001);
        matches("a*ab", 0b00100100);
        matches("z*", 0b10000000);
        matches("z*z*z*z*z*z*", 0b10000000);
        matches("zzzzzzzzz*", 0b10000000);
        matches("zzzzzzzzzz*", 0);
        matches("c*", 0);
    }

    static void anyLetters() {
        matches(".*", ALL);
        matches(".*.*.*.*.*.*", ALL);
        matches("..*", ALL);
        matches(".*b", 0b00110110);
        matches("a.*", 0b00111101);
        matches(".*a.*", 0b01111101);
        matches(".*.*.*c", 0b00001000);
        matches("........*", 0b10000000);
        matches(".........*", 0b10000000);
        matches("..........*", 0);
    }

    static void alternatives() {
        matches("a|b", 0b00000011);
        matches("b|a", 0b00000011);
        matches("x|ab|abc", 0b00001100);
        matches("a|a", 0b00000001);
        matches("a*b|ba", 0b01100110);
        matches("ba|a*b", 0b01100110);
        matches("x|y", 0);
    }

    /** An empty alternative would match an empty name, and there is none; nor is such a pattern empty. */
    static void emptyAlternatives() {
        matches("|", 0);
        matches("||", 0);
        matches("a|", 0b00000001);
        matches("|a", 0b00000001);
        matches("a||b", 0b00000011);
    }

    /** An empty pattern leaves all in, on either side. */
    static void emptyPattern() {
        Check.due("neither", Words.withMethods(NAMES).selected(), ALL);
    }
}
