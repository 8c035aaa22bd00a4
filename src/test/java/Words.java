/** Names, traits and events in words, so that the tests can be read. */
final class Words {
    static final int PRIORITY = 0;
    static final int GROUPS = 1;
    static final int ALWAYS = 2;
    static final int COUNT = 3;
    static final int PROVIDER = 4;
    static final int DURATION = 5;
    static final int WANTED = 6;
    static final int PERCENT = 7;
    static final int BEHAVIOUR = 8;

    static final int SUITE = 0;
    static final int CLASS = 1;
    static final int METHOD = 2;

    static final int STATUS = 0;
    static final int PASSES = 1;
    static final int FAILS = 2;
    static final int SKIPS = 3;
    static final int ENTERED = 4;
    static final int TAKEN = 5;
    static final int ENDED = 6;

    static final int NOT_SELECTED = 0;
    static final int WAITING = 1;
    static final int RUNNING = 2;
    static final int PASSED = 3;
    static final int FAILED = 4;
    static final int SKIPPED = 5;

    private Words() {
    }

    static long name(String letters) {
        long name = 0;
        for (int i = letters.length() - 1; i >= 0; i--) {
            name = name << 5 | letters.charAt(i) - 'a' + 1;
        }
        return name;
    }

    /** An object with one method for each name, all of class 0. */
    static SuiteRunner withMethods(String... names) {
        return Story.methods(names).told();
    }

    /** Goes on until the run is over; 400 ticks are more than any run of these tests has left. */
    static void rest(SuiteRunner x) {
        for (int i = 0; i < 4; i++) {
            x.tick(100);
        }
    }

    static void run(SuiteRunner x) {
        x.start();
        rest(x);
    }

    static void typeAll(SuiteRunner x, boolean including, String pattern) {
        for (char c : pattern.toCharArray()) {
            x.type(including, c);
        }
    }

    /** An event as time, kind, number and result: "3 end 1 2" is the end of an invocation of method 1 at time 3. */
    static String event(int event) {
        String[] kinds = {"conf", "enter", "end", "done", "over"};
        return event / 2048 + " " + kinds[event % 8] + " " + event / 8 % 16 + " " + event / 128 % 16;
    }
}
