import java.lang.reflect.InvocationTargetException;
import java.lang.reflect.Method;
import java.util.ArrayList;
import java.util.List;
import java.util.NoSuchElementException;

/** Long runs of calls, made by a generator that is always the same, on LateRules and on PlainRules. */
final class RandomRunsTest {
    private static final int CALLS = 512;
    private static final int TEXT_CALL = -1;
    /** How many calls a text of 80 signs is told by, with end, end and rule. */
    private static final int LONGEST_TEXT = 23;
    private static final String[] KINDS = {"unique", "refers", "range", "sum", "count", "tree", "refers"};

    private long seed;
    private final LateRules ours = new LateRules();
    private final PlainRules plain = new PlainRules();
    private final List<String> log = new ArrayList<>();
    private final int tables;
    private final int keys;
    private final int spread;
    /** How many of 10 rules are late, and how wide the bounds of those are that have some: runs differ in how much is refused. */
    private final int late;
    private final int wide;
    /** Which kind more than half of the rules are of; -1: none. */
    private final int favourite;
    /** How many rows each table has first, each with values that are keys of rows; without such, rows seldom refer to others. */
    private final int web;

    private RandomRunsTest(long seed) {
        this.seed = seed * 7919 + 12345;
        tables = 1 + below(3);
        keys = 3 + below(below(4) == 0 ? 27 : 6);
        spread = 1 + below(5);
        late = below(3) == 0 ? 10 : below(11);
        wide = below(2) == 0 ? 900 : 0;
        favourite = below(2) == 0 ? -1 : below(KINDS.length);
        web = below(2) == 0 ? 0 : 2 + below(below(4) == 0 ? 29 : 9);
    }

    private int below(int n) {
        seed = seed * 6364136223846793005L + 1442695040888963407L;
        return (int) ((seed >>> 33) % n);
    }

    private int table() {
        return below(40) == 0 ? below(7) - 2 : below(tables);
    }

    private int key() {
        return below(40) == 0 ? below(40) - 5 : below(keys);
    }

    /** A table and mostly a key of a row there. */
    private int[] row() {
        int table = table();
        int bits = plain.rows(table, 1);
        if (bits <= 0 || below(12) == 0) {
            return new int[] {table, key()};
        }
        int key = below(30);
        while ((bits >> key & 1) == 0) {
            key = (key + 1) % 30;
        }
        return new int[] {table, key};
    }

    private int column() {
        return below(40) == 0 ? below(7) - 2 : below(3);
    }

    private int value() {
        if (web > 0 && below(4) != 0) {
            return below(web);
        }
        switch (below(12)) {
            case 0: return -1000;
            case 1: return below(199) - 99;
            case 2: return below(3) == 0 ? below(240) - 120 : below(5) - 2;
            case 3: case 4: case 5: case 6: return row()[1];
            default: return below(keys * spread / 2 + 1);
        }
    }

    private int what(int most) {
        return below(20) == 0 ? below(16) - 3 : below(most + 1);
    }

    private int rule() {
        return below(30) == 0 ? below(20) - 4 : below(Math.max(1, plain.count(0)));
    }

    private int place() {
        return below(4) == 0 ? below(40) - 3 : below(Math.max(1, plain.count(2))) - below(2);
    }

    private String blanks() {
        return below(6) == 0 ? "   ".substring(below(3)) : below(30) == 0 ? "" : " ";
    }

    private String ruleText() {
        String kind = KINDS[favourite >= 0 && below(5) < 3 ? favourite : below(KINDS.length)];
        StringBuilder s = new StringBuilder(below(8) == 0 ? " " : "").append(kind);
        s.append(blanks()).append(below(tables)).append(blanks()).append(below(3));
        if (kind.equals("refers") || kind.equals("count")) {
            s.append(blanks()).append(below(tables));
        }
        if (kind.equals("sum")) {
            s.append(blanks()).append(below(3));
        }
        if (kind.equals("range") || kind.equals("sum") || kind.equals("count")) {
            int low = kind.equals("count") ? 0 : below(3) == 0 ? -50 - wide : -2 - wide;
            int high = low + below(kind.equals("count") ? 4 : 60) + 2 * wide;
            s.append(blanks()).append(low).append(blanks()).append(high);
        }
        if (kind.equals("refers") && below(3) != 0) {
            s.append(blanks()).append(below(2) == 0 ? "cascade" : "clear");
        }
        if (below(10) < late) {
            s.append(blanks()).append("late");
        }
        if (below(3) == 0) {
            s.append(blanks()).append("rank").append(blanks()).append(below(100));
        }
        if (below(5) == 0) {
            spoil(s);
        }
        return s.substring(0, Math.min(80, s.length()));
    }

    private void spoil(StringBuilder s) {
        String[] wrong = {"x", "-", "--1", "12345", "3", "late", "rank", "100", "cascade", "A", "\u00e9", "9", "clear", " 7 "};
        int at = below(s.length() + 1);
        if (below(2) == 0) {
            s.setLength(at);
        } else {
            s.insert(at, wrong[below(wrong.length)]);
        }
    }

    private Object[] oneCall() {
        int[] row = row();
        switch (below(100)) {
            case 0: case 1: case 2: return call("later", rule(), below(2) == 0);
            case 3: return call("drop", rule());
            case 4: return call("sign", below(1 << 30));
            case 5: return call("end", below(90) - 4);
            case 6: return call("rule");
            case 7: case 8: return new Object[] {TEXT_CALL, ruleText()};
            case 9: case 10: case 11: case 12: case 13: return call("begin");
            case 14: case 15: return call("commit");
            case 16: return call("abort");
            case 17: case 18: case 19: return call("mark");
            case 20: case 21: return call("back", below(below(4) == 0 ? 10 : 2) - below(2) * below(2));
            case 22: case 23: return call("value", row[0], row[1], column());
            case 24: return call("rows", table(), what(1));
            case 25: case 26: return call("told", rule(), what(9));
            case 27: case 28: case 29: case 30: case 31: case 32: case 33: return call("queue", place(), what(4));
            case 34: case 35: return call("group", below(5) - 1, what(1));
            case 36: case 37: return call("asked", below(6) - 1, what(2));
            case 38: case 39: return call("fresh", below(5) == 0 ? below(12) - 2 : below(2), what(1));
            case 40: case 41: return call("question", rule(), below(3) == 0 ? value() : key(), what(1));
            case 42: case 43: return call("first", what(3));
            case 44: return call("all", what(2));
            case 45: case 46: return call("verdict", what(2));
            case 47: return call("letter", below(20) - 1);
            case 48: case 49: return call("wouldSet", row[0], row[1], column(), value());
            case 50: case 51: case 52: return call("wouldCut", row[0], row[1], what(2));
            case 53: case 54: return call("leans", row[0], row[1], what(1));
            case 55: return call("least", row[0], row[1], column());
            case 56: case 57: return call("depth", below(3) == 0 ? rule() : tree(), row[1]);
            case 58: case 59: case 60: case 61: return call("since", what(6));
            case 62: case 63: case 64: return call("count", what(9));
            default: return act();
        }
    }

    private int tree() {
        for (int rule = 0; rule < 12; rule++) {
            if (plain.told(rule, 0) == 5) {
                return rule;
            }
        }
        return rule();
    }

    private Object[] act() {
        int[] row = row();
        switch (below(10)) {
            case 0: case 1: case 2: case 3: return call("put", table(), key(), value(), value(), value());
            case 4: return call("cut", row[0], row[1]);
            case 5: return call("rekey", row[0], row[1], web > 0 ? below(30) : key());
            default: return call("set", row[0], row[1], column(), value());
        }
    }

    private static Object[] call(Object... parts) {
        return parts;
    }

    /** Calls made of short ones are let go to both, sign by sign. */
    private boolean tell(String signs) {
        boolean same = both(call("end", 0));
        for (int i = 0; i < signs.length(); i += 4) {
            int v = 0;
            for (int j = i; j < i + 4; j++) {
                v = v << 8 | (j < signs.length() ? signs.charAt(j) : ' ');
            }
            same = same && both(call("sign", v));
        }
        return same && both(call("end", signs.length())) && both(call("rule"));
    }

    private boolean both(Object[] call) {
        String one = answer(ours, call);
        String other = answer(plain, call);
        log.add(java.util.Arrays.toString(call) + " answered " + one + ", due is " + other);
        return one.equals(other);
    }

    private static String answer(Object on, Object[] call) {
        Class<?>[] types = new Class<?>[call.length - 1];
        Object[] arguments = new Object[call.length - 1];
        for (int i = 1; i < call.length; i++) {
            types[i - 1] = call[i] instanceof Boolean ? boolean.class : int.class;
            arguments[i - 1] = call[i];
        }
        try {
            Method method = on.getClass().getMethod((String) call[0], types);
            method.setAccessible(true);
            return String.valueOf(method.invoke(on, arguments));
        } catch (InvocationTargetException e) {
            return e.getCause() instanceof NoSuchElementException ? "NoSuchElementException" : e.getCause().toString();
        } catch (ReflectiveOperationException e) {
            return e.toString();
        }
    }

    /** No value is a key that is not below the row's own, so that trees and rules that refer hold. */
    private boolean putWeb() {
        for (int table = 0; table < tables; table++) {
            for (int key = 0; key < web; key++) {
                if (!both(call("put", table, key, keyBelow(key), keyBelow(key), keyBelow(key)))) {
                    return false;
                }
            }
        }
        return true;
    }

    private int keyBelow(int key) {
        return key == 0 || below(8) == 0 ? -1000 : below(3) == 0 ? key - 1 : below(key);
    }

    private boolean run() {
        int rulesFirst = below(12);
        if (!putWeb()) {
            return false;
        }
        for (int i = 0; i < rulesFirst; i++) {
            if (!tell(ruleText())) {
                return false;
            }
        }
        while (log.size() < CALLS) {
            Object[] call = oneCall();
            if (call[0].equals(TEXT_CALL) && log.size() + LONGEST_TEXT > CALLS) {
                continue;
            }
            boolean same = call[0].equals(TEXT_CALL) ? tell((String) call[1]) : both(call);
            if (!same) {
                return false;
            }
        }
        return true;
    }

    public static void main(String[] args) {
        int runs = args.length > 1 ? Integer.parseInt(args[1]) : 150;
        int first = args.length > 2 ? Integer.parseInt(args[2]) : 0;
        for (int i = first; i < first + runs; i++) {
            RandomRunsTest test = new RandomRunsTest(i);
            if (!test.run()) {
                System.out.println("run " + i + ":");
                for (String line : test.log) {
                    System.out.println("  " + line);
                }
                System.exit(1);
            }
        }
        System.out.println("RandomRunsTest: " + runs + " runs, all answers alike");
    }
}
