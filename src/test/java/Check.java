/** Counts the answers that are not as due, and prints each of them. */
final class Check {
    private final String test;
    private int wrong;

    Check(String test) {
        this.test = test;
    }

    void due(String what, long got, long want) {
        if (got != want) {
            wrong++;
            System.out.println(test + ": " + what + " answered " + got + ", due is " + want);
        }
    }

    void yes(String what, boolean got) {
        due(what, got ? 1 : 0, 1);
    }

    void no(String what, boolean got) {
        due(what, got ? 1 : 0, 0);
    }

    /** All events of the latest run (at most 64), the first one first, as text. */
    void events(String what, SuiteRunner x, String... want) {
        int count = x.event(-1);
        due(what + ": how many events", count, want.length);
        for (int i = 0; i < count && i < want.length; i++) {
            String got = Words.event(x.event(count - 1 - i));
            if (!got.equals(want[i])) {
                wrong++;
                System.out.println(test + ": " + what + ": event " + i + " was '" + got + "', due is '" + want[i] + "'");
            }
        }
    }

    void end() {
        if (wrong != 0) {
            System.out.println(test + ": " + wrong + " answers are not as due");
            System.exit(1);
        }
    }
}
