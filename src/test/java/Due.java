import java.util.NoSuchElementException;

/** What the tests share: answers compared with what is due, and texts told sign by sign. */
final class Due {
    static final int NULL = -1000;
    static final int NOTHING = Integer.MIN_VALUE;

    private static int wrong = 0;
    private static int looked = 0;
    /** The sentence of the document that is being looked at, told with each wrong answer. */
    private static String sentence = "";

    private Due() {
    }

    static void about(String told) {
        sentence = told + ": ";
    }

    static int looked() {
        return looked;
    }

    static void is(String call, long got, long want) {
        looked++;
        if (got != want) {
            wrong++;
            System.out.println(sentence + call + " answered " + got + ", due is " + want);
        }
    }

    static void is(String call, boolean got, boolean want) {
        is(call, got ? 1 : 0, want ? 1 : 0);
    }

    static void is(String call, String got, String want) {
        looked++;
        if (!got.equals(want)) {
            wrong++;
            System.out.println(sentence + call + " answered '" + got + "', due is '" + want + "'");
        }
    }

    static void noValue(LateRules x, int table, int key, int column) {
        boolean thrown = false;
        try {
            x.value(table, key, column);
        } catch (NoSuchElementException e) {
            thrown = true;
        }
        is("value(" + table + ", " + key + ", " + column + ") throws", thrown, true);
    }

    static void noQueue(LateRules x, int i, int what) {
        boolean thrown = false;
        try {
            x.queue(i, what);
        } catch (NoSuchElementException e) {
            thrown = true;
        }
        is("queue(" + i + ", " + what + ") throws", thrown, true);
    }

    /** THE TEXT becomes these signs, at most 80. */
    static void text(LateRules x, String signs) {
        x.end(0);
        for (int i = 0; i < signs.length(); i += 4) {
            int v = 0;
            for (int j = i; j < i + 4; j++) {
                v = v << 8 | (j < signs.length() ? signs.charAt(j) : ' ');
            }
            x.sign(v);
        }
        x.end(signs.length());
    }

    static int rule(LateRules x, String signs) {
        text(x, signs);
        return x.rule();
    }

    static LateRules with(String... rules) {
        LateRules x = new LateRules();
        for (int i = 0; i < rules.length; i++) {
            is("rule " + rules[i], rule(x, rules[i]), i);
        }
        return x;
    }

    static String words(LateRules x) {
        StringBuilder words = new StringBuilder();
        for (int i = 0; i < x.verdict(2); i++) {
            words.append((char) x.letter(i));
        }
        return words.toString();
    }

    /** THE QUEUE as rule:subject:begin:now:fails, with blanks between. */
    static String queue(LateRules x) {
        StringBuilder all = new StringBuilder();
        for (int i = 0; i < x.count(2); i++) {
            all.append(i == 0 ? "" : " ").append(x.queue(i, 0));
            for (int what = 1; what < 5; what++) {
                all.append(':').append(x.queue(i, what));
            }
        }
        return all.toString();
    }

    static String asked(LateRules x) {
        StringBuilder all = new StringBuilder();
        for (int i = 0; i < x.asked(LateRules.NONE, 0); i++) {
            all.append(i == 0 ? "" : " ").append(x.asked(i, 0));
            all.append(':').append(x.asked(i, 1)).append(':').append(x.asked(i, 2));
        }
        return all.toString();
    }

    static String since(LateRules x) {
        StringBuilder all = new StringBuilder();
        for (int what = 0; what < 7; what++) {
            all.append(what == 0 ? "" : " ").append(x.since(what));
        }
        return all.toString();
    }

    static void finish(String name) {
        System.out.println(name + ": " + looked + " answers looked at, " + wrong + " not as due");
        if (wrong != 0) {
            System.exit(1);
        }
    }
}
