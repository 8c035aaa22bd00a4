import java.util.ArrayList;
import java.util.Comparator;
import java.util.List;
import java.util.Set;
import java.util.TreeMap;
import java.util.TreeSet;
import java.util.Map;
import java.util.regex.Pattern;

/** The document once more, told with the Java library's texts, sets and regular expressions: what ModelTest compares with. */
final class Model {
    private static final class Meth {
        int number;
        int cls;
        String name;
        int[] traits = {0, 0, 0, 1, -1, 1, 0, 100, 0};
        Set<Integer> methods = new TreeSet<>();
        Set<Integer> groups = new TreeSet<>();
        String status = "none";
        List<String> results = new ArrayList<>();
        int entered;
        int taken = -1;
        int ended = -1;
        int due;
        int remaining;

        boolean inGroup(int g) {
            return (traits[1] >> g) % 2 == 1;
        }

        boolean isOver() {
            return status.equals("PASSED") || status.equals("FAILED") || status.equals("SKIPPED");
        }

        int count(String result) {
            int n = 0;
            for (String each : results) {
                n += each.equals(result) ? 1 : 0;
            }
            return n;
        }
    }

    private static final class Conf {
        int number;
        String kind;
        int behaviour;
        int runs;
    }

    private static final List<String> STATUS = List.of("none", "WAITING", "RUNNING", "PASSED", "FAILED", "SKIPPED");
    private static final List<String> RESULT = List.of("", "PASS", "FAIL", "SKIP");

    private final List<Meth> methods = new ArrayList<>();
    private final List<Conf> confs = new ArrayList<>();
    private final int[] rows = {1, 1, 1, 1};
    private final StringBuilder including = new StringBuilder();
    private final StringBuilder excluding = new StringBuilder();
    private int classes = 15;
    private int included;
    private int excluded;
    private Set<Integer> again;
    private int workers = 1;
    private boolean byClasses;
    private boolean skips = true;
    private boolean propagates;
    private boolean ignores;

    private boolean underWay;
    private boolean anyOver;
    private int time;
    private Set<Integer> chosen = new TreeSet<>();
    private Map<Integer, Meth> hands = new TreeMap<>();
    private Set<String> hadTurn = new TreeSet<>();
    private Set<String> failedKinds = new TreeSet<>();
    private List<Integer> events = new ArrayList<>();

    static String letters(long name) {
        StringBuilder text = new StringBuilder();
        for (long rest = name; rest != 0; rest = rest >>> 5) {
            long letter = rest % 32;
            if (rest < 0 || letter < 1 || letter > 26) {
                return "";
            }
            text.append((char) ('a' + letter - 1));
        }
        return text.length() > 8 ? "" : text.toString();
    }

    int method(int cls, long name) {
        if (underWay || cls < 0 || cls > 3 || letters(name).isEmpty() || methods.size() == 16) {
            return -1;
        }
        Meth added = new Meth();
        added.number = methods.size();
        added.cls = cls;
        added.name = letters(name);
        methods.add(added);
        return added.number;
    }

    private boolean there(int m) {
        return m >= 0 && m < methods.size();
    }

    boolean trait(int m, int which, int v) {
        if (underWay || !there(m) || which < 0 || which > 8) {
            return false;
        }
        boolean fine = switch (which) {
            case 0 -> v >= -9 && v <= 9;
            case 1 -> v >= 0 && v < 64;
            case 2 -> v == 0 || v == 1;
            case 3 -> v >= 1 && v <= 4;
            case 4 -> v >= -1 && v <= 3;
            case 5 -> v >= 1 && v <= 9;
            case 6 -> v >= 0 && v <= 3;
            case 7 -> v >= 1 && v <= 100;
            default -> true;
        };
        if (fine) {
            methods.get(m).traits[which] = v;
        }
        return fine;
    }

    boolean needs(int m, int n) {
        return !underWay && there(m) && there(n) && methods.get(m).methods.add(n);
    }

    boolean needsGroup(int m, int g) {
        return !underWay && there(m) && g >= 0 && g <= 5 && methods.get(m).groups.add(g);
    }

    boolean provider(int p, int count) {
        if (underWay || p < 0 || p > 3 || count < -1 || count > 4) {
            return false;
        }
        rows[p] = count;
        return true;
    }

    private static String kind(int level, boolean before, int cls) {
        return (before ? "BEFORE " : "AFTER ") + (level == 0 ? "SUITE" : level == 1 ? "CLASS " + cls : "METHOD " + cls);
    }

    int configuration(int level, boolean before, int cls, int behaviour) {
        if (underWay || level < 0 || level > 2 || cls < 0 || cls > 3 || confs.size() == 8) {
            return -1;
        }
        Conf added = new Conf();
        added.number = confs.size();
        added.kind = kind(level, before, cls);
        added.behaviour = behaviour;
        confs.add(added);
        return added.number;
    }

    boolean type(boolean toIncluding, char c) {
        StringBuilder pattern = toIncluding ? including : excluding;
        if (underWay || pattern.length() == 12 || "abcdefghijklmnopqrstuvwxyz.*|".indexOf(c) < 0) {
            return false;
        }
        if (c == '*' && ("|" + pattern).matches(".*[|*]")) {
            return false;
        }
        pattern.append(c);
        return true;
    }

    boolean select(int pickedClasses, int includedGroups, int excludedGroups) {
        if (underWay) {
            return false;
        }
        classes = pickedClasses;
        included = includedGroups % 64;
        excluded = excludedGroups;
        including.setLength(0);
        excluding.setLength(0);
        again = null;
        return true;
    }

    boolean options(int count, boolean mode, boolean policy, boolean propagate, boolean ignore) {
        if (underWay || count < 1 || count > 3) {
            return false;
        }
        workers = count;
        byClasses = mode;
        skips = policy;
        propagates = propagate;
        ignores = ignore;
        return true;
    }

    private Set<Integer> selectedNow() {
        Set<Integer> set = new TreeSet<>();
        for (Meth m : methods) {
            boolean in = (classes >> m.cls & 1) == 1 && (again == null || again.contains(m.number));
            boolean inIncluded = included == 0;
            for (int g = 0; g < 6; g++) {
                in &= !(m.inGroup(g) && (excluded >> g & 1) == 1);
                inIncluded |= m.inGroup(g) && (included >> g & 1) == 1;
            }
            in &= including.length() == 0 || Pattern.matches(including.toString(), m.name);
            in &= excluding.length() == 0 || !Pattern.matches(excluding.toString(), m.name);
            if (in && inIncluded) {
                set.add(m.number);
            }
        }
        return set;
    }

    private Set<Integer> needsOf(int m, Set<Integer> selected) {
        Set<Integer> set = new TreeSet<>();
        if (!selected.contains(m)) {
            return set;
        }
        for (int n : selected) {
            boolean byGroup = methods.get(m).groups.stream().anyMatch(methods.get(n)::inGroup);
            if (byGroup || methods.get(m).methods.contains(n)) {
                set.add(n);
            }
        }
        return set;
    }

    /** Adds all that m needs, directly or by others. */
    private void addNeeded(int m, Set<Integer> selected, Set<Integer> found) {
        for (int n : needsOf(m, selected)) {
            if (found.add(n)) {
                addNeeded(n, selected, found);
            }
        }
    }

    private Set<Integer> circleOf(Set<Integer> selected) {
        Set<Integer> set = new TreeSet<>();
        for (int m : selected) {
            Set<Integer> found = new TreeSet<>();
            addNeeded(m, selected, found);
            if (found.contains(m)) {
                set.add(m);
            }
        }
        return set;
    }

    private boolean dangles(Set<Integer> selected) {
        for (int m : selected) {
            if (!selected.containsAll(methods.get(m).methods)) {
                return true;
            }
            for (int g : methods.get(m).groups) {
                if (selected.stream().noneMatch(n -> methods.get(n).inGroup(g))) {
                    return true;
                }
            }
        }
        return false;
    }

    private static int bits(Set<Integer> set) {
        int bits = 0;
        for (int each : set) {
            bits += 1 << each;
        }
        return bits;
    }

    int start() {
        Set<Integer> selected = selectedNow();
        if (underWay || selected.isEmpty()) {
            return -1;
        }
        if (dangles(selected) && !ignores) {
            return 1;
        }
        if (!circleOf(selected).isEmpty()) {
            return 2;
        }
        underWay = true;
        time = 0;
        chosen = selected;
        hands = new TreeMap<>();
        hadTurn = new TreeSet<>();
        failedKinds = new TreeSet<>();
        events = new ArrayList<>();
        confs.forEach(c -> c.runs = 0);
        for (Meth m : methods) {
            m.status = selected.contains(m.number) ? "WAITING" : "none";
            m.results = new ArrayList<>();
            m.entered = 0;
            m.taken = -1;
            m.ended = -1;
        }
        return 0;
    }

    int tick(int n) {
        if (n < 0 || n > 100) {
            return -1;
        }
        for (int made = 0; made < n; made++) {
            if (!underWay) {
                return made;
            }
            oneTick();
        }
        return n;
    }

    private void oneTick() {
        time++;
        for (int w = 0; w < workers; w++) {
            Meth m = hands.get(w);
            if (m != null && --m.remaining == 0) {
                String result = result(m, m.results.size());
                ends(m, result);
                runAll(kind(2, false, m.cls));
                if (!goesOn(m)) {
                    hands.remove(w);
                }
            }
        }
        for (int w = 0; w < workers; w++) {
            while (!hands.containsKey(w)) {
                Meth m = first();
                if (m == null) {
                    break;
                }
                if (taken(m)) {
                    hands.put(w, m);
                }
            }
        }
        if (chosen.stream().allMatch(m -> methods.get(m).isOver())) {
            if (hadTurn.contains(kind(0, true, 0))) {
                runAll(kind(0, false, 0));
            }
            note(4, 0, 0);
            underWay = false;
            anyOver = true;
        }
    }

    private Meth first() {
        return methods.stream()
            .filter(m -> m.status.equals("WAITING"))
            .filter(m -> needsOf(m.number, chosen).stream().allMatch(n -> methods.get(n).isOver()))
            .filter(m -> !byClasses || hands.values().stream().noneMatch(other -> other.cls == m.cls))
            .min(Comparator.<Meth>comparingInt(m -> m.traits[0]).thenComparing(m -> m.name).thenComparingInt(m -> m.number))
            .orElse(null);
    }

    private boolean taken(Meth m) {
        m.taken = time;
        boolean spoilt = needsOf(m.number, chosen).stream().anyMatch(n -> !methods.get(n).status.equals("PASSED"));
        if (m.traits[2] == 0 && spoilt) {
            over(m, "SKIPPED");
            return false;
        }
        for (String kind : List.of(kind(0, true, 0), kind(1, true, m.cls))) {
            if (hadTurn.add(kind)) {
                runAll(kind);
            }
        }
        if (blocked(m)) {
            over(m, "SKIPPED");
            return false;
        }
        int fed = m.traits[4] == -1 ? 1 : rows[m.traits[4]];
        if (fed == -1) {
            over(m, propagates ? "FAILED" : "SKIPPED");
            return false;
        }
        m.status = "RUNNING";
        m.due = m.traits[3] * fed;
        return goesOn(m);
    }

    /** Begins invocations; whether one was entered. */
    private boolean goesOn(Meth m) {
        if (m.results.size() == m.due) {
            int passes = m.count("PASS");
            int fails = m.count("FAIL");
            boolean allSkipped = m.due > 0 && m.count("SKIP") == m.due;
            boolean tooFew = fails > 0 && 100.0 * passes / (passes + fails) < m.traits[7] - 1e-9;
            over(m, allSkipped ? "SKIPPED" : tooFew ? "FAILED" : "PASSED");
            return false;
        }
        if (blocked(m)) {
            ends(m, "SKIP");
            return goesOn(m);
        }
        runAll(kind(2, true, m.cls));
        if (blocked(m)) {
            ends(m, "SKIP");
            return goesOn(m);
        }
        note(1, m.number, m.results.size());
        m.entered++;
        m.remaining = m.traits[5];
        return true;
    }

    private String result(Meth m, int j) {
        int deed = m.traits[8] >> 3 * (j % 10) & 7;
        int wanted = m.traits[6];
        return switch (deed) {
            case 1 -> "FAIL";
            case 2, 3, 4 -> wanted == deed - 1 ? "PASS" : "FAIL";
            case 5 -> "SKIP";
            default -> wanted == 0 ? "PASS" : "FAIL";
        };
    }

    private void ends(Meth m, String result) {
        m.results.add(result);
        note(2, m.number, RESULT.indexOf(result));
    }

    private void over(Meth m, String status) {
        m.status = status;
        m.ended = time;
        note(3, m.number, STATUS.indexOf(status));
        boolean last = chosen.stream().map(methods::get).allMatch(n -> n.cls != m.cls || n.isOver());
        if (last && hadTurn.contains(kind(1, true, m.cls))) {
            runAll(kind(1, false, m.cls));
        }
    }

    private void runAll(String kind) {
        for (Conf c : confs) {
            if (c.kind.equals(kind)) {
                boolean fails = (c.behaviour & 1 << c.runs % 30) != 0;
                c.runs++;
                if (fails) {
                    failedKinds.add(kind.substring(kind.indexOf(' ') + 1));
                }
                note(0, c.number, fails ? 2 : 1);
            }
        }
    }

    private boolean blocked(Meth m) {
        return skips && (failedKinds.contains("SUITE") || failedKinds.contains("CLASS " + m.cls)
            || failedKinds.contains("METHOD " + m.cls));
    }

    private void note(int kind, int number, int result) {
        events.add(0, kind + 8 * number + 128 * result + 2048 * time);
    }

    int again() {
        if (underWay || !anyOver) {
            return -1;
        }
        Set<Integer> selected = selectedNow();
        Set<Integer> set = new TreeSet<>();
        for (Meth m : methods) {
            if (m.status.equals("FAILED") || m.status.equals("SKIPPED")) {
                set.add(m.number);
                addNeeded(m.number, selected, set);
            }
        }
        again = set.isEmpty() ? null : set;
        return bits(set);
    }

    boolean running() {
        return underWay;
    }

    int selected() {
        return bits(selectedNow());
    }

    int edges(int m) {
        return bits(needsOf(m, selectedNow()));
    }

    int circle() {
        return bits(circleOf(selectedNow()));
    }

    int report(int m, int what) {
        if (!there(m)) {
            return -1;
        }
        Meth of = methods.get(m);
        return switch (what) {
            case 0 -> STATUS.indexOf(of.status);
            case 1 -> of.count("PASS");
            case 2 -> of.count("FAIL");
            case 3 -> of.count("SKIP");
            case 4 -> of.entered;
            case 5 -> of.taken;
            case 6 -> of.ended;
            default -> -1;
        };
    }

    int worker(int w) {
        return hands.containsKey(w) ? hands.get(w).number : -1;
    }

    int event(int k) {
        if (k == -1) {
            return events.size();
        }
        return k >= 0 && k < 64 && k < events.size() ? events.get(k) : -1;
    }
}
