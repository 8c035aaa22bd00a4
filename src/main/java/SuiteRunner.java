/**
 * Runs test methods step by step: they are selected by groups and name patterns, ordered by what
 * they need and by priority, fed with rows and surrounded by configurations.
 *
 * <p>The face only looks at the arguments; what was declared is held by {@link Catalog}, what is
 * picked by {@link Selection}, and the run itself is made by {@link Runner}.
 */
public final class SuiteRunner {

    public static final int NONE = -1;

    private static final int CLASS_COUNT = 4;
    private static final int GROUP_COUNT = 6;
    private static final int PROVIDER_COUNT = 4;
    private static final int MOST_METHODS = 16;
    private static final int MOST_CONFIGURATIONS = 8;
    private static final int MOST_ROWS = 4;
    private static final int MOST_WORKERS = 3;
    private static final int MOST_TICKS = 100;
    private static final int ALL_CLASSES = 15;
    private static final int ALL_GROUPS = 63;
    private static final int BROKEN = -1;

    private static final int PRIORITY = 0;
    private static final int GROUPS = 1;
    private static final int ALWAYS = 2;
    private static final int COUNT = 3;
    private static final int PROVIDER = 4;
    private static final int DURATION = 5;
    private static final int WANTED = 6;
    private static final int PERCENT = 7;
    private static final int BEHAVIOUR = 8;
    private static final int TRAIT_COUNT = 9;

    private static final int SUITE = 0;
    private static final int CLASS = 1;
    private static final int METHOD = 2;

    private static final int NOT_SELECTED = 0;
    private static final int WAITING = 1;
    private static final int RUNNING = 2;
    private static final int PASSED = 3;
    private static final int FAILED = 4;
    private static final int SKIPPED = 5;

    private static final int PASS = 1;
    private static final int FAIL = 2;
    private static final int SKIP = 3;

    private static final int CONFIGURATION_RAN = 0;
    private static final int INVOCATION_ENTERED = 1;
    private static final int INVOCATION_ENDED = 2;
    private static final int METHOD_ENDED = 3;
    private static final int RUN_OVER = 4;

    private final Runner runner;
    private final Catalog catalog;
    private final Selection selection;

    public SuiteRunner() {
        runner = new Runner();
        catalog = runner.catalog;
        selection = new Selection();
    }

    public int method(int cls, long name) {
        if (runner.underWay || !isWithin(cls, CLASS_COUNT) || !TestMethod.isName(name)) {
            return NONE;
        }
        return catalog.addMethod(cls, name);
    }

    public boolean trait(int m, int which, int v) {
        if (runner.underWay || !catalog.hasMethod(m) || !TestMethod.allows(which, v)) {
            return false;
        }
        catalog.methods[m].traits[which] = v;
        return true;
    }

    public boolean needs(int m, int n) {
        if (runner.underWay || !catalog.hasMethod(m) || !catalog.hasMethod(n)) {
            return false;
        }
        TestMethod asking = catalog.methods[m];
        if (holds(asking.neededMethods, n)) {
            return false;
        }
        asking.neededMethods |= 1 << n;
        return true;
    }

    public boolean needsGroup(int m, int g) {
        if (runner.underWay || !catalog.hasMethod(m) || !isWithin(g, GROUP_COUNT)) {
            return false;
        }
        TestMethod asking = catalog.methods[m];
        if (holds(asking.neededGroups, g)) {
            return false;
        }
        asking.neededGroups |= 1 << g;
        return true;
    }

    public boolean provider(int p, int rows) {
        if (runner.underWay || !isWithin(p, PROVIDER_COUNT) || rows < BROKEN || rows > MOST_ROWS) {
            return false;
        }
        catalog.rows[p] = rows;
        return true;
    }

    public int configuration(int level, boolean before, int cls, int behaviour) {
        if (runner.underWay || level < SUITE || level > METHOD || !isWithin(cls, CLASS_COUNT)) {
            return NONE;
        }
        return catalog.addConfiguration(level, before, cls, behaviour);
    }

    public boolean type(boolean including, char c) {
        if (runner.underWay) {
            return false;
        }
        return including ? selection.including.append(c) : selection.excluding.append(c);
    }

    public boolean select(int classes, int included, int excluded) {
        if (runner.underWay) {
            return false;
        }
        selection.pick(classes & ALL_CLASSES, included & ALL_GROUPS, excluded & ALL_GROUPS);
        return true;
    }

    public boolean options(int workers, boolean classes, boolean skips, boolean propagates, boolean ignores) {
        if (runner.underWay || workers < 1 || workers > MOST_WORKERS) {
            return false;
        }
        Options options = runner.options;
        options.workers = workers;
        options.byClasses = classes;
        options.skips = skips;
        options.propagates = propagates;
        options.ignores = ignores;
        return true;
    }

    public int start() {
        int chosen = chosenNow();
        if (runner.underWay || chosen == 0) {
            return NONE;
        }
        if (!runner.options.ignores && catalog.hasDanglingNeed(chosen)) {
            return 1;
        }
        if (catalog.circleWithin(chosen) != 0) {
            return 2;
        }
        runner.begin(chosen);
        return 0;
    }

    public int tick(int n) {
        if (n < 0 || n > MOST_TICKS) {
            return NONE;
        }
        int made = 0;
        while (made < n && runner.underWay) {
            runner.step();
            made++;
        }
        return made;
    }

    public int again() {
        if (runner.underWay || !runner.anyOver) {
            return NONE;
        }
        selection.again = catalog.withAllNeeded(runner.spoiled, chosenNow());
        return selection.again;
    }

    public boolean running() {
        return runner.underWay;
    }

    public int selected() {
        return chosenNow();
    }

    public int edges(int m) {
        int chosen = chosenNow();
        return catalog.hasMethod(m) && holds(chosen, m) ? catalog.needsWithin(m, chosen) : 0;
    }

    public int circle() {
        return catalog.circleWithin(chosenNow());
    }

    public int report(int m, int what) {
        return catalog.hasMethod(m) ? runner.progress[m].figure(what) : NONE;
    }

    public int worker(int w) {
        return isWithin(w, MOST_WORKERS) ? runner.hands[w] : NONE;
    }

    public int event(int k) {
        return k == -1 ? runner.log.count : runner.log.latest(k);
    }

    private int chosenNow() {
        int chosen = 0;
        for (int m = 0; m < catalog.methodCount; m++) {
            if (selection.admits(m, catalog.methods[m])) {
                chosen |= 1 << m;
            }
        }
        return chosen;
    }

    private static boolean isWithin(int number, int count) {
        return number >= 0 && number < count;
    }

    private static boolean holds(int set, int number) {
        return (set >> number & 1) == 1;
    }

    /** What was said of one method. */
    private static final class TestMethod {
        private static final int BITS = 5;
        private static final int LETTER = 31;
        private static final int LAST_LETTER = 26;
        private static final int LONGEST = 8;
        private static final int[] FIRST = {0, 0, 0, 1, -1, 1, 0, 100, 0};
        private static final int[] LEAST = {-9, 0, 0, 1, -1, 1, 0, 1, -2147483648};
        private static final int[] MOST = {9, 63, 1, 4, 3, 9, 3, 100, 2147483647};

        int cls;
        long name;
        final int[] traits = FIRST.clone();
        int neededMethods;
        int neededGroups;

        static boolean allows(int which, int v) {
            return isWithin(which, TRAIT_COUNT) && v >= LEAST[which] && v <= MOST[which];
        }

        static int letterAt(long name, int i) {
            return (int) (name >>> BITS * i) & LETTER;
        }

        static int lengthOf(long name) {
            int length = 0;
            while (length < LONGEST && letterAt(name, length) != 0) {
                length++;
            }
            return length;
        }

        static boolean isName(long name) {
            int length = lengthOf(name);
            for (int i = 0; i < length; i++) {
                if (letterAt(name, i) > LAST_LETTER) {
                    return false;
                }
            }
            return length > 0 && name >>> BITS * length == 0;
        }

        /** The end of a name reads as letter 0, so that a name comes before those that begin with it. */
        static int compareNames(long one, long other) {
            for (int i = 0; i < LONGEST; i++) {
                int difference = letterAt(one, i) - letterAt(other, i);
                if (difference != 0) {
                    return difference;
                }
            }
            return 0;
        }

        boolean comesBefore(TestMethod other) {
            int difference = traits[PRIORITY] - other.traits[PRIORITY];
            return difference != 0 ? difference < 0 : compareNames(name, other.name) < 0;
        }

        int resultOf(int j) {
            int deed = traits[BEHAVIOUR] >> 3 * (j % 10) & 7;
            if (deed == 5) {
                return SKIP;
            }
            int wanted = traits[WANTED];
            boolean returns = deed == 0 || deed > 5;
            boolean throwsWanted = deed == wanted + 1;
            return (wanted == 0 ? returns : throwsWanted) ? PASS : FAIL;
        }
    }

    /** One configuration, with the count of its runs in the latest run of the framework. */
    private static final class Configuration {
        int level;
        boolean before;
        int cls;
        int behaviour;
        int runs;

        boolean isOf(int askedLevel, boolean askedBefore, int askedCls) {
            return level == askedLevel && before == askedBefore && (level == SUITE || cls == askedCls);
        }

        boolean failsNow() {
            boolean fails = (behaviour >> runs % 30 & 1) == 1;
            runs++;
            return fails;
        }
    }

    /** All that was declared, and who needs whom in it. */
    private static final class Catalog {
        final TestMethod[] methods = new TestMethod[MOST_METHODS];
        int methodCount;
        final Configuration[] configurations = new Configuration[MOST_CONFIGURATIONS];
        int configurationCount;
        final int[] rows = {1, 1, 1, 1};
        /** Kept for the search of circles alone, so that no call has to make it anew. */
        private final int[] reach = new int[MOST_METHODS];

        Catalog() {
            for (int m = 0; m < MOST_METHODS; m++) {
                methods[m] = new TestMethod();
            }
            for (int c = 0; c < MOST_CONFIGURATIONS; c++) {
                configurations[c] = new Configuration();
            }
        }

        boolean hasMethod(int m) {
            return isWithin(m, methodCount);
        }

        int addMethod(int cls, long name) {
            if (methodCount == MOST_METHODS) {
                return NONE;
            }
            TestMethod added = methods[methodCount];
            added.cls = cls;
            added.name = name;
            methodCount++;
            return methodCount - 1;
        }

        int addConfiguration(int level, boolean before, int cls, int behaviour) {
            if (configurationCount == MOST_CONFIGURATIONS) {
                return NONE;
            }
            Configuration added = configurations[configurationCount];
            added.level = level;
            added.before = before;
            added.cls = cls;
            added.behaviour = behaviour;
            configurationCount++;
            return configurationCount - 1;
        }

        int rowsFor(TestMethod method) {
            int p = method.traits[PROVIDER];
            return isWithin(p, PROVIDER_COUNT) ? rows[p] : 1;
        }

        int methodsOf(int cls) {
            int found = 0;
            for (int m = 0; m < methodCount; m++) {
                if (methods[m].cls == cls) {
                    found |= 1 << m;
                }
            }
            return found;
        }

        int needsWithin(int m, int chosen) {
            TestMethod asking = methods[m];
            int needed = asking.neededMethods;
            for (int n = 0; n < methodCount; n++) {
                if ((methods[n].traits[GROUPS] & asking.neededGroups) != 0) {
                    needed |= 1 << n;
                }
            }
            return needed & chosen;
        }

        boolean hasDanglingNeed(int chosen) {
            int groups = 0;
            int namedMethods = 0;
            int namedGroups = 0;
            for (int m = 0; m < methodCount; m++) {
                if (holds(chosen, m)) {
                    groups |= methods[m].traits[GROUPS];
                    namedMethods |= methods[m].neededMethods;
                    namedGroups |= methods[m].neededGroups;
                }
            }
            return (namedMethods & ~chosen) != 0 || (namedGroups & ~groups) != 0;
        }

        int circleWithin(int chosen) {
            findReach(chosen);
            int circle = 0;
            for (int m = 0; m < methodCount; m++) {
                if (holds(reach[m], m)) {
                    circle |= 1 << m;
                }
            }
            return circle;
        }

        int withAllNeeded(int set, int chosen) {
            findReach(chosen);
            int all = set;
            for (int m = 0; m < methodCount; m++) {
                if (holds(set, m)) {
                    all |= reach[m];
                }
            }
            return all;
        }

        /** Warshall's order (the middle one outermost) makes one pass enough. */
        private void findReach(int chosen) {
            for (int m = 0; m < methodCount; m++) {
                reach[m] = holds(chosen, m) ? needsWithin(m, chosen) : 0;
            }
            for (int middle = 0; middle < methodCount; middle++) {
                for (int m = 0; m < methodCount; m++) {
                    if (holds(reach[m], middle)) {
                        reach[m] |= reach[middle];
                    }
                }
            }
        }

        void forgetRuns() {
            for (int c = 0; c < configurationCount; c++) {
                configurations[c].runs = 0;
            }
        }
    }

    /** A pattern of names, as it was typed. */
    private static final class Pattern {
        private static final int LONGEST = 12;

        private final char[] signs = new char[LONGEST];
        private int length;

        void clear() {
            length = 0;
        }

        boolean isEmpty() {
            return length == 0;
        }

        boolean append(char c) {
            if (length == LONGEST || !fits(c)) {
                return false;
            }
            signs[length] = c;
            length++;
            return true;
        }

        private boolean fits(char c) {
            if (c == '*') {
                return length > 0 && signs[length - 1] != '|' && signs[length - 1] != '*';
            }
            return c >= 'a' && c <= 'z' || c == '.' || c == '|';
        }

        /**
         * Bit i of reached says that the pieces so far can be the first i letters of the name: all
         * ways are followed at once, so that no way has to be taken back.
         */
        boolean matches(long name) {
            int nameLength = TestMethod.lengthOf(name);
            int reached = 1;
            for (int i = 0; i < length; i++) {
                char c = signs[i];
                if (c == '|') {
                    if (holds(reached, nameLength)) {
                        return true;
                    }
                    reached = 1;
                } else if (c != '*') {
                    boolean starred = i + 1 < length && signs[i + 1] == '*';
                    reached = afterPiece(reached, c, starred, name, nameLength);
                }
            }
            return holds(reached, nameLength);
        }

        private static int afterPiece(int reached, char c, boolean starred, long name, int nameLength) {
            int after = starred ? reached : 0;
            for (int i = 0; i < nameLength; i++) {
                boolean suits = c == '.' || TestMethod.letterAt(name, i) == c - 'a' + 1;
                // A starred piece goes on from where it has got itself, too.
                if (suits && holds(starred ? after : reached, i)) {
                    after |= 1 << i + 1;
                }
            }
            return after;
        }
    }

    /** What is picked for the next run. */
    private static final class Selection {
        final Pattern including = new Pattern();
        final Pattern excluding = new Pattern();
        /** 0 when there is no again set: the document has no empty one. */
        int again;
        private int classes = ALL_CLASSES;
        private int included;
        private int excluded;

        void pick(int pickedClasses, int includedGroups, int excludedGroups) {
            classes = pickedClasses;
            included = includedGroups;
            excluded = excludedGroups;
            including.clear();
            excluding.clear();
            again = 0;
        }

        boolean admits(int m, TestMethod method) {
            int groups = method.traits[GROUPS];
            return holds(classes, method.cls)
                && (groups & excluded) == 0
                && (included == 0 || (groups & included) != 0)
                && (including.isEmpty() || including.matches(method.name))
                && (excluding.isEmpty() || !excluding.matches(method.name))
                && (again == 0 || holds(again, m));
        }
    }

    /** How runs are made. */
    private static final class Options {
        int workers = 1;
        boolean byClasses;
        boolean skips = true;
        boolean propagates;
        boolean ignores;
    }

    /** The latest 64 events of a run, and how many there were in all. */
    private static final class Log {
        private static final int KEPT = 64;

        private final int[] events = new int[KEPT];
        int count;

        void clear() {
            count = 0;
        }

        void add(int kind, int number, int result, int time) {
            events[count % KEPT] = kind + 8 * number + 128 * result + 2048 * time;
            count++;
        }

        int latest(int k) {
            return isWithin(k, KEPT) && k < count ? events[(count - 1 - k) % KEPT] : NONE;
        }
    }

    /** What the latest run has done with one method. */
    private static final class Progress {
        int status;
        int takenAt = NONE;
        int endedAt = NONE;
        int due;
        int begun;
        int remaining;
        private int passes;
        private int fails;
        private int skips;
        private int entered;

        void reset(int firstStatus) {
            status = firstStatus;
            takenAt = NONE;
            endedAt = NONE;
            due = 0;
            begun = 0;
            remaining = 0;
            passes = 0;
            fails = 0;
            skips = 0;
            entered = 0;
        }

        void enter(int duration) {
            remaining = duration;
            entered++;
        }

        void count(int result) {
            if (result == PASS) {
                passes++;
            } else if (result == FAIL) {
                fails++;
            } else {
                skips++;
            }
        }

        int verdict(int percent) {
            int judged = passes + fails;
            if (skips > 0 && judged == 0) {
                return SKIPPED;
            }
            return fails > 0 && 100 * passes < percent * judged ? FAILED : PASSED;
        }

        int figure(int what) {
            switch (what) {
                case 0: return status;
                case 1: return passes;
                case 2: return fails;
                case 3: return skips;
                case 4: return entered;
                case 5: return takenAt;
                case 6: return endedAt;
                default: return NONE;
            }
        }
    }

    /** Makes a run; nothing declared, picked or said changes while it is under way. */
    private static final class Runner {
        /** The place of SUITE among the bits of the classes. */
        private static final int SUITE_PLACE = 1 << CLASS_COUNT;

        final Catalog catalog = new Catalog();
        final Options options = new Options();
        final Log log = new Log();
        final Progress[] progress = new Progress[MOST_METHODS];
        /** The method of each worker; all have none when no run is under way. */
        final int[] hands = {NONE, NONE, NONE};
        boolean underWay;
        boolean anyOver;
        /** The methods that are FAILED or SKIPPED. */
        int spoiled;
        private final int[] needed = new int[MOST_METHODS];
        private int time;
        private int chosen;
        private int ended;
        /** Places whose configurations BEFORE had their turn. */
        private int turnPlaces;
        /** Places of which a configuration has failed. */
        private int failedPlaces;

        Runner() {
            for (int m = 0; m < MOST_METHODS; m++) {
                progress[m] = new Progress();
            }
        }

        void begin(int methods) {
            underWay = true;
            time = 0;
            chosen = methods;
            ended = 0;
            spoiled = 0;
            turnPlaces = 0;
            failedPlaces = 0;
            log.clear();
            catalog.forgetRuns();
            for (int m = 0; m < MOST_METHODS; m++) {
                progress[m].reset(holds(chosen, m) ? WAITING : NOT_SELECTED);
                needed[m] = catalog.needsWithin(m, chosen);
            }
        }

        void step() {
            time++;
            for (int w = 0; w < options.workers; w++) {
                advance(w);
            }
            for (int w = 0; w < options.workers; w++) {
                serve(w);
            }
            if (ended == chosen) {
                finish();
            }
        }

        private void advance(int w) {
            int m = hands[w];
            if (m == NONE) {
                return;
            }
            progress[m].remaining--;
            if (progress[m].remaining == 0) {
                endEntered(m);
                hands[w] = proceed(m) ? m : NONE;
            }
        }

        /** Every round takes a waiting method, so there are at most as many rounds as methods. */
        private void serve(int w) {
            for (int round = 0; round < MOST_METHODS && hands[w] == NONE; round++) {
                int m = firstToTake();
                if (m == NONE) {
                    return;
                }
                if (take(m) && proceed(m)) {
                    hands[w] = m;
                }
            }
        }

        private void finish() {
            if ((turnPlaces & SUITE_PLACE) != 0) {
                runConfigurations(SUITE, false, 0);
            }
            underWay = false;
            anyOver = true;
            log.add(RUN_OVER, 0, 0, time);
        }

        private int firstToTake() {
            int busy = options.byClasses ? busyClasses() : 0;
            int first = NONE;
            for (int m = 0; m < catalog.methodCount; m++) {
                TestMethod method = catalog.methods[m];
                boolean ready = progress[m].status == WAITING
                    && (needed[m] & ~ended) == 0
                    && !holds(busy, method.cls);
                if (ready && (first == NONE || method.comesBefore(catalog.methods[first]))) {
                    first = m;
                }
            }
            return first;
        }

        private int busyClasses() {
            int busy = 0;
            for (int w = 0; w < options.workers; w++) {
                if (hands[w] != NONE) {
                    busy |= 1 << catalog.methods[hands[w]].cls;
                }
            }
            return busy;
        }

        /** Answers whether the method is running then; otherwise it has ended. */
        private boolean take(int m) {
            TestMethod method = catalog.methods[m];
            progress[m].takenAt = time;
            if (method.traits[ALWAYS] == 0 && (needed[m] & spoiled) != 0) {
                endMethod(m, SKIPPED);
                return false;
            }
            giveTurn(SUITE, method.cls);
            giveTurn(CLASS, method.cls);
            if (isBlocked(method.cls)) {
                endMethod(m, SKIPPED);
                return false;
            }
            int rows = catalog.rowsFor(method);
            if (rows == BROKEN) {
                endMethod(m, options.propagates ? FAILED : SKIPPED);
                return false;
            }
            progress[m].status = RUNNING;
            progress[m].due = method.traits[COUNT] * rows;
            return true;
        }

        private void giveTurn(int level, int cls) {
            int place = placeOf(level, cls);
            if ((turnPlaces & place) == 0) {
                turnPlaces |= place;
                runConfigurations(level, true, cls);
            }
        }

        /** Answers whether an invocation was entered; otherwise none is due any more and the method has ended. */
        private boolean proceed(int m) {
            Progress own = progress[m];
            while (own.begun < own.due) {
                own.begun++;
                if (enterLatest(m)) {
                    return true;
                }
            }
            endMethod(m, own.verdict(catalog.methods[m].traits[PERCENT]));
            return false;
        }

        private boolean enterLatest(int m) {
            TestMethod method = catalog.methods[m];
            if (!isBlocked(method.cls)) {
                runConfigurations(METHOD, true, method.cls);
            }
            if (isBlocked(method.cls)) {
                endInvocation(m, SKIP);
                return false;
            }
            progress[m].enter(method.traits[DURATION]);
            log.add(INVOCATION_ENTERED, m, progress[m].begun - 1, time);
            return true;
        }

        private void endEntered(int m) {
            TestMethod method = catalog.methods[m];
            endInvocation(m, method.resultOf(progress[m].begun - 1));
            runConfigurations(METHOD, false, method.cls);
        }

        private void endInvocation(int m, int result) {
            progress[m].count(result);
            log.add(INVOCATION_ENDED, m, result, time);
        }

        private void endMethod(int m, int status) {
            progress[m].status = status;
            progress[m].endedAt = time;
            ended |= 1 << m;
            if (status != PASSED) {
                spoiled |= 1 << m;
            }
            log.add(METHOD_ENDED, m, status, time);
            int cls = catalog.methods[m].cls;
            boolean last = (chosen & catalog.methodsOf(cls) & ~ended) == 0;
            if (last && (turnPlaces & placeOf(CLASS, cls)) != 0) {
                runConfigurations(CLASS, false, cls);
            }
        }

        private boolean isBlocked(int cls) {
            return options.skips && (failedPlaces & (SUITE_PLACE | 1 << cls)) != 0;
        }

        private void runConfigurations(int level, boolean before, int cls) {
            for (int c = 0; c < catalog.configurationCount; c++) {
                Configuration configuration = catalog.configurations[c];
                if (configuration.isOf(level, before, cls)) {
                    boolean fails = configuration.failsNow();
                    if (fails) {
                        failedPlaces |= placeOf(level, cls);
                    }
                    log.add(CONFIGURATION_RAN, c, fails ? 2 : 1, time);
                }
            }
        }

        private static int placeOf(int level, int cls) {
            return level == SUITE ? SUITE_PLACE : 1 << cls;
        }
    }
}
