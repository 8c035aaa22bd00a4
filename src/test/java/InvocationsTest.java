/** What invocations and methods come to: the terms of promises 12 and 18. */
public final class InvocationsTest {
    public static void main(String[] args) {
        Check.all(InvocationsTest.class);
    }

    private static SuiteRunner ran(int behaviour, int wanted, int percent, int count) {
        SuiteRunner x = Words.withMethods("a");
        x.trait(0, Words.BEHAVIOUR, behaviour);
        x.trait(0, Words.WANTED, wanted);
        x.trait(0, Words.PERCENT, percent);
        x.trait(0, Words.COUNT, count);
        Words.run(x);
        return x;
    }

    private static int statusOf(int behaviour, int percent, int count) {
        return ran(behaviour, 0, percent, count).report(0, Words.STATUS);
    }

    static void results() {
        int p = Words.PASSED;
        int f = Words.FAILED;
        int s = Words.SKIPPED;
        int[][] due = {{p, f, f, f, f, s, p, p}, {f, f, p, f, f, s, f, f}, {f, f, f, p, f, s, f, f}, {f, f, f, f, p, s, f, f}};
        for (int wanted = 0; wanted < 4; wanted++) {
            for (int deed = 0; deed < 8; deed++) {
                SuiteRunner x = ran(deed, wanted, 100, 1);
                String what = "deed " + deed + ", wanted " + wanted;
                int status = due[wanted][deed];
                Check.report(what, x, 0, status, status == p ? 1 : 0, status == f ? 1 : 0, status == s ? 1 : 0, 1, 1, 2);
                Check.events(what, x, "1 enter 0 0", "2 end 0 " + (status - 2), "2 done 0 " + status, "2 over 0 0");
            }
        }
    }

    /** behaviour >> 3 * (j % 10) & 7: the deed at place j is done by invocation j, and by j + 10. */
    static void eachInvocationHasItsBits() {
        for (int place = 0; place < 10; place++) {
            for (int others : new int[] {0, 3 << 30}) {
                SuiteRunner x = Words.withMethods("a");
                x.trait(0, Words.COUNT, 4);
                x.trait(0, Words.PROVIDER, 2);
                x.provider(2, 4);
                x.trait(0, Words.BEHAVIOUR, 5 << 3 * place | others);
                Words.run(x);
                Check.due("entered", x.report(0, Words.ENTERED), 16);
                Check.due("skips by place " + place, x.report(0, Words.SKIPS), place < 6 ? 2 : 1);
                for (int j = 0; j < 16; j++) {
                    // From the latest one: over, done, end 15, enter 15, end 14, ..
                    int result = x.event(2 + 2 * (15 - j)) / 128 % 16;
                    Check.due("place " + place + ", invocation " + j, result, j % 10 == place ? 3 : 1);
                }
            }
        }
    }

    /** A negative behaviour is shifted with its sign, which is never in the three bits looked at. */
    static void aNegativeBehaviour() {
        SuiteRunner x = ran(-1, 0, 100, 4);
        Check.report("all do 7", x, 0, Words.PASSED, 4, 0, 0, 4, 1, 5);
        SuiteRunner y = ran(Integer.MIN_VALUE, 1, 100, 1);
        Check.due("0 throws nothing", y.report(0, Words.STATUS), Words.FAILED);
    }

    static void percentIsReached() {
        int oneFails = 1;
        Check.due("75 of 75", statusOf(oneFails, 75, 4), Words.PASSED);
        Check.due("75 of 76", statusOf(oneFails, 76, 4), Words.FAILED);
        Check.due("66.7 of 66", statusOf(oneFails, 66, 3), Words.PASSED);
        Check.due("66.7 of 67", statusOf(oneFails, 67, 3), Words.FAILED);
        Check.due("50 of 50", statusOf(oneFails, 50, 2), Words.PASSED);
        Check.due("50 of 51", statusOf(oneFails, 51, 2), Words.FAILED);
    }

    static void nonePasses() {
        Check.due("0 of 1", statusOf(1, 1, 1), Words.FAILED);
        Check.due("0 of 100", statusOf(1, 100, 1), Words.FAILED);
    }

    /** "FAILED if there was a FAIL": without one PERCENT does not count. */
    static void noneFails() {
        Check.due("100 of 100", statusOf(0, 100, 4), Words.PASSED);
        Check.due("skips beside passes", statusOf(5 | 5 << 3 | 5 << 6, 100, 4), Words.PASSED);
    }

    static void skipsDoNotCount() {
        int failSkipSkipPass = 1 | 5 << 3 | 5 << 6;
        Check.due("50 of 50", statusOf(failSkipSkipPass, 50, 4), Words.PASSED);
        Check.due("50 of 51", statusOf(failSkipSkipPass, 51, 4), Words.FAILED);
    }

    static void allAreSkipped() {
        Check.due("the only one", statusOf(5, 100, 1), Words.SKIPPED);
        Check.due("all skip", statusOf(5 | 5 << 3, 100, 2), Words.SKIPPED);
        Check.due("one passes", statusOf(5, 100, 2), Words.PASSED);
        Check.due("one fails", statusOf(5 | 1 << 3, 100, 2), Words.FAILED);
        Check.due("one fails, percent 1", statusOf(5 | 1 << 3, 1, 2), Words.FAILED);
    }

    /** Each begins when the one before has ended, in the same tick; DURATION 1 and 9. */
    static void oneAfterTheOther() {
        for (int duration : new int[] {1, 9}) {
            SuiteRunner x = Words.withMethods("a");
            x.trait(0, Words.DURATION, duration);
            x.trait(0, Words.COUNT, 2);
            Words.run(x);
            int first = 1 + duration;
            int second = 1 + 2 * duration;
            Check.events("duration " + duration, x, "1 enter 0 0", first + " end 0 1", first + " enter 0 1", second + " end 0 1",
                second + " done 0 3", second + " over 0 0");
        }
    }
}
