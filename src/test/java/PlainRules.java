import java.util.ArrayList;
import java.util.Arrays;
import java.util.List;
import java.util.NoSuchElementException;
import java.util.TreeMap;
import java.util.TreeSet;
import java.util.regex.Matcher;
import java.util.regex.Pattern;

/**
 * The document written down once more, as plainly and slowly as it goes: nothing is kept but rows, rules and
 * counters, and each answer is found by going through all questions there can be. RandomRunsTest compares it
 * with LateRules.
 */
final class PlainRules {
    private static final int NULL = -1000;
    private static final int NONE = -1;
    private static final int NOTHING = Integer.MIN_VALUE;
    private static final List<String> KINDS = Arrays.asList("unique", "refers", "range", "sum", "count", "tree");

    private static final class Told {
        int kind, t, c, u = NONE, low, high, rank = 50, action;
        boolean late;
    }

    private static final class Q {
        final int rule, subject;

        Q(int rule, int subject) {
            this.rule = rule;
            this.subject = subject;
        }
    }

    /** Table, then key, then three values. */
    private static final class World {
        final List<TreeMap<Integer, int[]>> tables = new ArrayList<>();

        World() {
            for (int t = 0; t < 3; t++) {
                tables.add(new TreeMap<>());
            }
        }

        World copy() {
            World w = new World();
            for (int t = 0; t < 3; t++) {
                for (int k : tables.get(t).keySet()) {
                    w.tables.get(t).put(k, tables.get(t).get(k).clone());
                }
            }
            return w;
        }

        TreeMap<Integer, int[]> of(int t) {
            return tables.get(t);
        }

        boolean has(int t, int k) {
            return t >= 0 && t < 3 && of(t).containsKey(k);
        }

        int total() {
            return of(0).size() + of(1).size() + of(2).size();
        }
    }

    private final StringBuilder text = new StringBuilder();
    private final TreeMap<Integer, Told> rules = new TreeMap<>();
    private World now = new World();
    private World begin = null;
    private final List<World> marks = new ArrayList<>();
    private final List<int[]> lastAsked = new ArrayList<>();
    private String words = "";
    private int verdictRule = NOTHING, verdictSubject = NOTHING;
    private final int[] since = new int[6];
    private int askedSoFar, commits, wentBack, aborts;

    // ---- the text

    public int sign(int v) {
        if (text.length() > 76) {
            return NONE;
        }
        text.append((char) (v >>> 24)).append((char) (v >> 16 & 255)).append((char) (v >> 8 & 255)).append((char) (v & 255));
        return text.length();
    }

    public boolean end(int n) {
        if (n < 0 || n > text.length()) {
            return false;
        }
        text.setLength(n);
        return true;
    }

    private static final Pattern TOKEN = Pattern.compile(" *([a-z]+|-?[0-9]+|[^ ]|$)", Pattern.DOTALL);

    private List<String> tokens;
    private List<Integer> places;
    private int at;

    private static final class Bad extends RuntimeException {
        private static final long serialVersionUID = 1;
    }

    private int number(int low, int high) {
        String s = tokens.get(at);
        if (!s.matches("-?[0-9]{1,4}") || Integer.parseInt(s) < low || Integer.parseInt(s) > high) {
            throw new Bad();
        }
        at++;
        return Integer.parseInt(s);
    }

    private boolean word(String w) {
        if (tokens.get(at).equals(w)) {
            at++;
            return true;
        }
        return false;
    }

    private Told parse() {
        tokens = new ArrayList<>();
        places = new ArrayList<>();
        Matcher m = TOKEN.matcher(text);
        int from = 0;
        while (m.find(from)) {
            tokens.add(m.group(1));
            places.add(m.start(1));
            from = m.end();
            if (m.group(1).isEmpty()) {
                break;
            }
        }
        at = 0;
        Told r = new Told();
        r.kind = KINDS.indexOf(tokens.get(0));
        if (r.kind < 0) {
            throw new Bad();
        }
        at = 1;
        r.t = number(0, 2);
        r.c = number(0, 2);
        String kind = KINDS.get(r.kind);
        if (kind.equals("refers") || kind.equals("sum") || kind.equals("count")) {
            r.u = number(0, 2);
        }
        if (kind.equals("range") || kind.equals("sum") || kind.equals("count")) {
            r.low = number(-9999, 9999);
            r.high = number(r.low, 9999);
        }
        if (kind.equals("refers")) {
            r.action = word("cascade") ? 1 : word("clear") ? 2 : 0;
        }
        r.late = word("late");
        if (word("rank")) {
            r.rank = number(0, 99);
        }
        if (!tokens.get(at).isEmpty()) {
            throw new Bad();
        }
        return r;
    }

    // ---- questions

    private static boolean canBe(Told r, int s) {
        return r.kind == 2 || r.kind >= 4 ? s >= 0 && s <= 29 : s >= -99 && s <= 99;
    }

    private static List<int[]> withValue(World w, int t, int c, int v) {
        List<int[]> rows = new ArrayList<>();
        for (int[] row : w.of(t).values()) {
            if (row[c] == v) {
                rows.add(row);
            }
        }
        return rows;
    }

    private static int sum(World w, Told r, int s) {
        int sum = 0;
        for (int[] row : withValue(w, r.t, r.c, s)) {
            sum += row[r.u] == NULL ? 0 : row[r.u];
        }
        return sum;
    }

    private static int state(World w, Told r, int s) {
        switch (r.kind) {
            case 0: return withValue(w, r.t, r.c, s).size();
            case 1:
            case 4: return 2 * withValue(w, r.t, r.c, s).size() + (w.has(r.u, s) ? 1 : 0);
            case 3: return withValue(w, r.t, r.c, s).isEmpty() ? 100000 : sum(w, r, s);
            default: return w.has(r.t, s) ? w.of(r.t).get(s)[r.c] : -2000;
        }
    }

    private static boolean fails(World w, Told r, int s) {
        int many = withValue(w, r.t, r.c, s).size();
        switch (r.kind) {
            case 0: return many > 1;
            case 1: return many > 0 && !w.has(r.u, s);
            case 2:
                if (!w.has(r.t, s)) {
                    return false;
                }
                int v = w.of(r.t).get(s)[r.c];
                return v != NULL && (v < r.low || v > r.high);
            case 3: return many > 0 && (sum(w, r, s) < r.low || sum(w, r, s) > r.high);
            case 4: return w.has(r.u, s) && (many < r.low || many > r.high);
            default:
                TreeSet<Integer> seen = new TreeSet<>();
                int k = s;
                while (w.has(r.t, k) && seen.add(k)) {
                    k = w.of(r.t).get(k)[r.c];
                }
                return w.has(r.t, k) && k == s;
        }
    }

    /** All questions there can be, in ORDER. */
    private List<Q> everyQuestion() {
        List<Integer> numbers = new ArrayList<>(rules.keySet());
        numbers.sort((a, b) -> rules.get(a).rank != rules.get(b).rank
            ? Integer.compare(rules.get(a).rank, rules.get(b).rank) : Integer.compare(a, b));
        List<Q> list = new ArrayList<>();
        for (int n : numbers) {
            for (int s = -99; s <= 99; s++) {
                if (canBe(rules.get(n), s)) {
                    list.add(new Q(n, s));
                }
            }
        }
        return list;
    }

    private int state(World w, Q q) {
        return state(w, rules.get(q.rule), q.subject);
    }

    private boolean fails(World w, Q q) {
        return fails(w, rules.get(q.rule), q.subject);
    }

    private boolean late(Q q) {
        return rules.get(q.rule).late;
    }

    private List<Q> differing(World a, World b) {
        List<Q> list = new ArrayList<>();
        for (Q q : everyQuestion()) {
            if (state(a, q) != state(b, q)) {
                list.add(q);
            }
        }
        return list;
    }

    private List<Q> waiting() {
        List<Q> list = new ArrayList<>();
        if (begin != null) {
            for (Q q : differing(begin, now)) {
                if (late(q)) {
                    list.add(q);
                }
            }
        }
        return list;
    }

    private static boolean holds(List<Q> list, Q q) {
        for (Q other : list) {
            if (other.rule == q.rule && other.subject == q.subject) {
                return true;
            }
        }
        return false;
    }

    private static int missing(List<Q> from, List<Q> in) {
        int many = 0;
        for (Q q : from) {
            many += holds(in, q) ? 0 : 1;
        }
        return many;
    }

    // ---- rules

    private void noVerdict() {
        words = "";
        verdictRule = NOTHING;
        verdictSubject = NOTHING;
    }

    private void verdictIs(int number, Told r, int subject) {
        words = "rule " + number + " " + KINDS.get(r.kind) + " " + subject;
        verdictRule = number;
        verdictSubject = subject;
    }

    private void verdictIs(Q q) {
        verdictIs(q.rule, rules.get(q.rule), q.subject);
    }

    public int rule() {
        noVerdict();
        Told r;
        try {
            r = parse();
        } catch (Bad e) {
            text.setLength(0);
            return -1000 - places.get(at);
        }
        text.setLength(0);
        if (begin != null) {
            return -3;
        }
        if (rules.size() == 12) {
            return -4;
        }
        int n = 0;
        while (rules.containsKey(n)) {
            n++;
        }
        for (int s = -99; s <= 99; s++) {
            if (canBe(r, s) && fails(now, r, s)) {
                verdictIs(n, r, s);
                return -5;
            }
        }
        rules.put(n, r);
        return n;
    }

    public int drop(int rule) {
        noVerdict();
        if (!rules.containsKey(rule)) {
            return -2;
        }
        if (begin != null) {
            return -3;
        }
        rules.remove(rule);
        return rules.size();
    }

    public int later(int rule, boolean late) {
        noVerdict();
        if (!rules.containsKey(rule)) {
            return -2;
        }
        if (rules.get(rule).late == late) {
            return -4;
        }
        List<Q> before = waiting();
        if (late) {
            rules.get(rule).late = true;
            int came = waiting().size() - before.size();
            since[0] += came;
            return came;
        }
        int left = 0;
        for (Q q : before) {
            if (q.rule == rule) {
                left++;
                askedSoFar++;
                if (fails(now, q)) {
                    verdictIs(q);
                    return -5;
                }
            }
        }
        rules.get(rule).late = false;
        return left;
    }

    // ---- acts

    private static boolean isValue(int v) {
        return v == NULL || v >= -99 && v <= 99;
    }

    private static boolean isRow(int t, int k) {
        return t >= 0 && t <= 2 && k >= 0 && k <= 29;
    }

    private int refuse(int code) {
        since[5]++;
        return code;
    }

    private int act(World next) {
        List<Q> touched = differing(now, next);
        for (Q q : touched) {
            if (!late(q)) {
                askedSoFar++;
                if (fails(next, q)) {
                    verdictIs(q);
                    return refuse(-5);
                }
            }
        }
        if (begin != null) {
            List<Q> before = waiting();
            now = next;
            List<Q> after = waiting();
            since[0] += missing(after, before);
            since[1] += missing(before, after);
            since[4]++;
            return touched.size();
        }
        begin();
        now = next;
        return commit() == -5 ? -5 : touched.size();
    }

    public int put(int table, int key, int a, int b, int c) {
        noVerdict();
        if (!isRow(table, key) || !isValue(a) || !isValue(b) || !isValue(c)) {
            return refuse(-1);
        }
        if (now.has(table, key)) {
            return refuse(-4);
        }
        World next = now.copy();
        next.of(table).put(key, new int[] {a, b, c});
        return act(next);
    }

    private int maySet(int table, int key, int column, int v) {
        if (!isRow(table, key) || column < 0 || column > 2 || !isValue(v)) {
            return -1;
        }
        if (!now.has(table, key)) {
            return -2;
        }
        return now.of(table).get(key)[column] == v ? -4 : 0;
    }

    public int set(int table, int key, int column, int v) {
        noVerdict();
        int code = maySet(table, key, column, v);
        if (code < 0) {
            return refuse(code);
        }
        World next = now.copy();
        next.of(table).get(key)[column] = v;
        return act(next);
    }

    private void cutFrom(World w, int table, int key) {
        w.of(table).remove(key);
        for (Told r : rules.values()) {
            if (r.kind != 1 || r.u != table || r.action == 0) {
                continue;
            }
            for (int k = 0; k < 30; k++) {
                if (w.has(r.t, k) && w.of(r.t).get(k)[r.c] == key) {
                    if (r.action == 1) {
                        cutFrom(w, r.t, k);
                    } else {
                        w.of(r.t).get(k)[r.c] = NULL;
                    }
                }
            }
        }
    }

    public int cut(int table, int key) {
        noVerdict();
        if (!isRow(table, key)) {
            return refuse(-1);
        }
        if (!now.has(table, key)) {
            return refuse(-2);
        }
        World next = now.copy();
        cutFrom(next, table, key);
        return act(next);
    }

    public int rekey(int table, int key, int to) {
        noVerdict();
        if (!isRow(table, key) || !isRow(table, to)) {
            return refuse(-1);
        }
        if (!now.has(table, key)) {
            return refuse(-2);
        }
        if (now.has(table, to)) {
            return refuse(-4);
        }
        World next = now.copy();
        next.of(table).put(to, next.of(table).remove(key));
        for (Told r : rules.values()) {
            if (r.kind == 1 && r.u == table && r.action != 0) {
                for (int[] row : withValue(next, r.t, r.c, key)) {
                    row[r.c] = r.action == 1 ? to : NULL;
                }
            }
        }
        return act(next);
    }

    // ---- transactions

    public int begin() {
        if (begin != null) {
            return -3;
        }
        begin = now.copy();
        marks.clear();
        Arrays.fill(since, 0);
        return now.total();
    }

    public int commit() {
        noVerdict();
        if (begin == null) {
            return -3;
        }
        lastAsked.clear();
        for (Q q : waiting()) {
            askedSoFar++;
            boolean bad = fails(now, q);
            lastAsked.add(new int[] {q.rule, q.subject, bad ? 1 : 0});
            if (bad) {
                verdictIs(q);
                now = begin;
                begin = null;
                marks.clear();
                wentBack++;
                return -5;
            }
        }
        begin = null;
        marks.clear();
        commits++;
        return lastAsked.size();
    }

    public int abort() {
        if (begin == null) {
            return -3;
        }
        int had = waiting().size();
        now = begin;
        begin = null;
        marks.clear();
        aborts++;
        return had;
    }

    public int mark() {
        if (begin == null) {
            return -3;
        }
        if (marks.size() == 8) {
            return -4;
        }
        marks.add(now.copy());
        return marks.size() - 1;
    }

    public int back(int mark) {
        noVerdict();
        if (begin == null) {
            return -3;
        }
        if (mark < 0 || mark >= marks.size()) {
            return -2;
        }
        World then = marks.get(mark).copy();
        for (Q q : everyQuestion()) {
            if (!late(q) && fails(then, q)) {
                verdictIs(q);
                return -5;
            }
        }
        List<Q> before = waiting();
        now = then;
        List<Q> after = waiting();
        since[2] += missing(before, after);
        since[3] += missing(after, before);
        while (marks.size() > mark + 1) {
            marks.remove(marks.size() - 1);
        }
        return after.size();
    }

    // ---- what there is

    public int value(int table, int key, int column) {
        if (!now.has(table, key) || column < 0 || column > 2) {
            throw new NoSuchElementException();
        }
        return now.of(table).get(key)[column];
    }

    public int rows(int table, int what) {
        if (table < 0 || table > 2 || what < 0 || what > 1) {
            return NONE;
        }
        int bits = 0;
        for (int k : now.of(table).keySet()) {
            bits |= 1 << k;
        }
        return what == 0 ? now.of(table).size() : bits;
    }

    private int waitingOf(int rule) {
        int many = 0;
        for (Q q : waiting()) {
            many += q.rule == rule ? 1 : 0;
        }
        return many;
    }

    public int told(int rule, int what) {
        Told r = rules.get(rule);
        if (r == null || what < 0 || what > 9) {
            return NOTHING;
        }
        return new int[] {r.kind, r.t, r.c, r.u, r.low, r.high, r.late ? 1 : 0, r.rank, r.action, waitingOf(rule)}[what];
    }

    public int queue(int i, int what) {
        List<Q> list = waiting();
        if (i < 0 || i >= list.size()) {
            throw new NoSuchElementException();
        }
        if (what < 0 || what > 4) {
            return NOTHING;
        }
        Q q = list.get(i);
        return new int[] {q.rule, q.subject, state(begin, q), state(now, q), fails(now, q) ? 1 : 0}[what];
    }

    public int group(int i, int what) {
        if (what < 0 || what > 1) {
            return NONE;
        }
        List<Integer> numbers = new ArrayList<>();
        for (Q q : waiting()) {
            if (!numbers.contains(q.rule)) {
                numbers.add(q.rule);
            }
        }
        if (i == NONE) {
            return numbers.size();
        }
        if (i < 0 || i >= numbers.size()) {
            return NONE;
        }
        return what == 0 ? numbers.get(i) : waitingOf(numbers.get(i));
    }

    public int asked(int i, int what) {
        if (what < 0 || what > 2 || i < NONE || i >= lastAsked.size()) {
            return NONE;
        }
        return i == NONE ? lastAsked.size() : lastAsked.get(i)[what];
    }

    public int fresh(int mark, int what) {
        if (mark < 0 || mark >= marks.size() || what < 0 || what > 1) {
            return NONE;
        }
        World then = marks.get(mark);
        List<Q> list = waiting();
        int many = 0;
        for (Q q : everyQuestion()) {
            if (what == 0 ? holds(list, q) && state(now, q) != state(then, q)
                : late(q) && !holds(list, q) && state(then, q) != state(begin, q)) {
                many++;
            }
        }
        return many;
    }

    public int question(int rule, int subject, int what) {
        Told r = rules.get(rule);
        if (r == null || !canBe(r, subject) || what < 0 || what > 1) {
            return NOTHING;
        }
        return what == 0 ? state(now, r, subject) : fails(now, r, subject) ? 1 : 0;
    }

    public int first(int what) {
        if (begin == null) {
            return NONE;
        }
        if (what < 0 || what > 3) {
            return NOTHING;
        }
        List<Q> list = waiting();
        int place = NONE;
        int many = 0;
        for (int i = list.size() - 1; i >= 0; i--) {
            if (fails(now, list.get(i))) {
                place = i;
                many++;
            }
        }
        if (what == 3) {
            return many;
        }
        return place == NONE || what == 2 ? place : what == 0 ? list.get(place).rule : list.get(place).subject;
    }

    public int all(int what) {
        if (what < 0 || what > 2) {
            return NOTHING;
        }
        List<Q> bad = new ArrayList<>();
        for (Q q : everyQuestion()) {
            if (fails(now, q)) {
                bad.add(q);
            }
        }
        if (what == 0) {
            return bad.size();
        }
        return bad.isEmpty() ? NONE : what == 1 ? bad.get(0).rule : bad.get(0).subject;
    }

    public int verdict(int what) {
        return what == 0 ? verdictRule : what == 1 ? verdictSubject : what == 2 ? words.length() : NOTHING;
    }

    public int letter(int i) {
        return i >= 0 && i < words.length() ? words.charAt(i) : NONE;
    }

    // ---- on paper

    private int wouldTell(World next) {
        List<Q> touched = differing(now, next);
        for (Q q : touched) {
            if ((begin == null || !late(q)) && fails(next, q)) {
                return -5;
            }
        }
        return touched.size();
    }

    public int wouldSet(int table, int key, int column, int v) {
        int code = maySet(table, key, column, v);
        if (code < 0) {
            return code;
        }
        World next = now.copy();
        next.of(table).get(key)[column] = v;
        return wouldTell(next);
    }

    public int wouldCut(int table, int key, int what) {
        if (!now.has(table, key) || what < 0 || what > 2) {
            return NONE;
        }
        World next = now.copy();
        cutFrom(next, table, key);
        if (what == 0) {
            return now.total() - next.total();
        }
        if (what == 2) {
            return wouldTell(next);
        }
        int many = 0;
        for (int t = 0; t < 3; t++) {
            for (int k : next.of(t).keySet()) {
                for (int c = 0; c < 3; c++) {
                    many += next.of(t).get(k)[c] != now.of(t).get(k)[c] ? 1 : 0;
                }
            }
        }
        return many;
    }

    private TreeSet<Integer> straight(int table, int key) {
        TreeSet<Integer> set = new TreeSet<>();
        for (Told r : rules.values()) {
            if (r.kind == 1 && r.u == table) {
                for (int k : now.of(r.t).keySet()) {
                    if (now.of(r.t).get(k)[r.c] == key) {
                        set.add(r.t * 100 + k);
                    }
                }
            }
        }
        return set;
    }

    public int leans(int table, int key, int what) {
        if (!now.has(table, key) || what < 0 || what > 1) {
            return NONE;
        }
        TreeSet<Integer> set = straight(table, key);
        if (what == 0) {
            return set.size();
        }
        for (int round = 0; round < 100; round++) {
            TreeSet<Integer> more = new TreeSet<>(set);
            for (int row : set) {
                more.addAll(straight(row / 100, row % 100));
            }
            set = more;
        }
        set.remove(table * 100 + key);
        return set.size();
    }

    public int least(int table, int key, int column) {
        if (!now.has(table, key) || column < 0 || column > 2) {
            return NOTHING;
        }
        World next = now.copy();
        for (int v = -99; v <= 99; v++) {
            next.of(table).get(key)[column] = v;
            boolean good = v != now.of(table).get(key)[column];
            for (Q q : differing(now, next)) {
                good = good && !fails(next, q);
            }
            if (good) {
                return v;
            }
        }
        return NOTHING;
    }

    public int depth(int rule, int key) {
        Told r = rules.get(rule);
        if (r == null || r.kind != 5 || !now.has(r.t, key)) {
            return NONE;
        }
        TreeSet<Integer> seen = new TreeSet<>();
        int k = key;
        while (now.has(r.t, k)) {
            if (!seen.add(k)) {
                return -2;
            }
            k = now.of(r.t).get(k)[r.c];
        }
        return seen.size() - 1;
    }

    public int since(int what) {
        if (begin == null || what < 0 || what > 6) {
            return NONE;
        }
        return what == 6 ? marks.size() : since[what];
    }

    public int count(int what) {
        int late = 0;
        for (Told r : rules.values()) {
            late += r.late ? 1 : 0;
        }
        int[] counts = {rules.size(), now.total(), waiting().size(), begin == null ? 0 : 1, askedSoFar, commits, wentBack,
            aborts, text.length(), late};
        return what < 0 || what >= counts.length ? NONE : counts[what];
    }
}
