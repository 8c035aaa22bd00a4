/** Many runs of calls, ordinary and wrong ones, each answer compared with that of the Model. */
public final class ModelTest {
    private static final int OBJECTS = 1500;
    private static final int CALLS = 512;
    /** No pick makes more calls than declareType. */
    private static final int MOST_AT_ONCE = 3;

    private final SuiteRunner x = new SuiteRunner();
    private final Model y = new Model();
    private final StringBuilder calls = new StringBuilder();
    private long seed;
    private int made;
    private boolean differs;

    private ModelTest(long seed) {
        this.seed = seed * 7919 + 17;
    }

    public static void main(String[] args) {
        int wrong = 0;
        for (int i = 0; i < OBJECTS && wrong < 3; i++) {
            ModelTest run = new ModelTest(i);
            if (!run.agrees()) {
                wrong++;
                System.out.println("ModelTest: object " + i + ":\n" + run.calls);
            }
        }
        if (wrong != 0) {
            System.exit(1);
        }
    }

    private boolean agrees() {
        int methods = 1 + below(16);
        for (int m = 0; m < methods; m++) {
            declareMethod();
        }
        int declared = below(40);
        for (int i = 0; i < declared; i++) {
            declare(below(20));
        }
        while (made <= CALLS - MOST_AT_ONCE && !differs) {
            int pick = below(100);
            if (pick < 12) {
                declare(below(20));
            } else if (pick < 17) {
                due("start()", x.start(), y.start());
            } else if (pick < 42) {
                int n = below(12) == 0 ? below(120) - 10 : below(6);
                due("tick(" + n + ")", x.tick(n), y.tick(n));
            } else {
                ask(pick % 10);
            }
        }
        return !differs;
    }

    /** The high bits of a linear generator: the same numbers at every run of the test. */
    private int below(int bound) {
        seed = seed * 6364136223846793005L + 1442695040888963407L;
        return (int) ((seed >>> 33) % bound);
    }

    private boolean flip() {
        return below(2) == 1;
    }

    private void due(String call, long got, long want) {
        made++;
        calls.append(call).append(" answered ").append(got).append('\n');
        if (got != want) {
            calls.append("due was ").append(want).append('\n');
            differs = true;
        }
    }

    private void due(String call, boolean got, boolean want) {
        due(call, got ? 1 : 0, want ? 1 : 0);
    }

    private void declareMethod() {
        int cls = below(25) == 0 ? below(8) - 2 : below(4);
        long name = 0;
        int length = 1 + below(below(8) == 0 ? 9 : 3);
        for (int i = 0; i < length; i++) {
            name = name << 5 | (below(60) == 0 ? below(32) : 1 + below(3));
        }
        due("method(" + cls + ", " + name + ")", x.method(cls, name), y.method(cls, name));
    }

    private void declare(int pick) {
        int m = below(17) - below(12) / 11;
        int n = below(17) - below(12) / 11;
        switch (pick) {
            case 0 -> declareMethod();
            case 1, 2, 3, 4, 5, 6 -> declareTrait(m);
            case 7, 8 -> {
                // Mostly to a lesser one, so that there are runs without a circle.
                int from = below(12) == 0 ? m : Math.max(m, n);
                int to = from == m ? n : m;
                due("needs(" + from + ", " + to + ")", x.needs(from, to), y.needs(from, to));
            }
            case 9 -> {
                int g = below(30) == 0 ? below(9) - 2 : below(6);
                if (below(3) == 0) {
                    due("needsGroup(" + m + ", " + g + ")", x.needsGroup(m, g), y.needsGroup(m, g));
                }
            }
            case 10, 11 -> {
                int p = below(10) == 0 ? below(7) - 2 : below(4);
                int rows = below(7) - 1;
                due("provider(" + p + ", " + rows + ")", x.provider(p, rows), y.provider(p, rows));
            }
            case 12 -> declareConfiguration();
            case 13 -> declareType();
            case 14, 15 -> declareSelect();
            case 16, 17 -> due("again()", x.again(), y.again());
            default -> declareOptions();
        }
    }

    private void declareTrait(int m) {
        int which = below(20) == 0 ? below(13) - 2 : below(9);
        int v = below(12);
        if (which == 0) {
            v = below(5) == 0 ? below(24) - 12 : below(3);
        } else if (which == 1) {
            v = below(15) == 0 ? below(70) - 3 : 1 << below(6) & 60 | below(2);
        } else if (which == 2 || which == 6) {
            v = below(5) - below(2);
        } else if (which == 3 || which == 4) {
            v = below(7) - 2;
        } else if (which == 7) {
            v = below(104) - 1;
        } else if (which == 8) {
            v = below(below(3) == 0 ? 1 << 30 : 8) * (flip() ? 1 : -3);
        }
        due("trait(" + m + ", " + which + ", " + v + ")", x.trait(m, which, v), y.trait(m, which, v));
    }

    private void declareConfiguration() {
        int level = below(15) == 0 ? below(6) - 2 : below(3);
        int cls = below(15) == 0 ? below(7) - 2 : below(4);
        boolean before = flip();
        int behaviour = flip() ? 0 : flip() ? 1 << below(32) : below(1 << 30) & below(1 << 30) & below(1 << 30);
        due("configuration(" + level + ", " + before + ", " + cls + ", " + behaviour + ")",
            x.configuration(level, before, cls, behaviour), y.configuration(level, before, cls, behaviour));
    }

    private void declareType() {
        boolean including = flip();
        int length = below(4);
        for (int i = 0; i < length; i++) {
            char c = below(20) == 0 ? (char) below(300) : "abc..**.*|.".charAt(below(11));
            due("type(" + including + ", " + (int) c + ")", x.type(including, c), y.type(including, c));
        }
    }

    private void declareSelect() {
        int classes = flip() ? 15 : below(20);
        int included = below(3) == 0 ? 1 + below(130) : 0;
        int excluded = below(3) == 0 ? 1 << below(7) : 0;
        due("select(" + classes + ", " + included + ", " + excluded + ")",
            x.select(classes, included, excluded), y.select(classes, included, excluded));
    }

    private void declareOptions() {
        int workers = below(15) == 0 ? below(7) - 2 : 1 + below(3);
        boolean classes = flip();
        boolean skips = below(3) != 0;
        boolean propagates = flip();
        boolean ignores = below(4) != 0;
        due("options(" + workers + ", " + classes + ", " + skips + ", " + propagates + ", " + ignores + ")",
            x.options(workers, classes, skips, propagates, ignores), y.options(workers, classes, skips, propagates, ignores));
    }

    private void ask(int pick) {
        int m = below(18) - 1;
        switch (pick) {
            case 0 -> due("running()", x.running(), y.running());
            case 1 -> due("selected()", x.selected(), y.selected());
            case 2 -> due("edges(" + m + ")", x.edges(m), y.edges(m));
            case 3 -> due("circle()", x.circle(), y.circle());
            case 4, 5, 6 -> {
                int what = below(8) - below(20) / 19;
                due("report(" + m + ", " + what + ")", x.report(m, what), y.report(m, what));
            }
            case 7 -> {
                int w = below(5) - 1;
                due("worker(" + w + ")", x.worker(w), y.worker(w));
            }
            default -> {
                int k = below(3) == 0 ? below(70) - 3 : below(12) - 1;
                due("event(" + k + ")", x.event(k), y.event(k));
            }
        }
    }
}
