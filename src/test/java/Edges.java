import java.util.NoSuchElementException;

/** What the tests of single sentences of the document share. */
abstract class Edges {
    static final String I = "Terms I";
    static final String II = "Terms II";
    static final int NONE = LateRules.NONE;
    static final int NULL = Due.NULL;
    static final int NOTHING = Due.NOTHING;
    static final int MIN = Integer.MIN_VALUE;
    static final int MAX = Integer.MAX_VALUE;

    interface Call {
        int on(LateRules x);
    }

    static void says(String section, String sentence) {
        Document.says(section, sentence);
    }

    static void says(int promise, String sentence) {
        Document.says("Promise " + promise, sentence);
    }

    static void is(String call, long got, long want) {
        Due.is(call, got, want);
    }

    static void is(String call, boolean got, boolean want) {
        Due.is(call, got, want);
    }

    static void is(String call, String got, String want) {
        Due.is(call, got, want);
    }

    /** Each of some numbers gets the same answer. */
    static void each(String call, int[] numbers, java.util.function.IntUnaryOperator answer, int want) {
        for (int number : numbers) {
            Due.is(call + " of " + number, answer.applyAsInt(number), want);
        }
    }

    static int[] these(int... numbers) {
        return numbers;
    }

    static boolean throwsNone(Call call, LateRules x) {
        try {
            call.on(x);
            return false;
        } catch (NoSuchElementException e) {
            return true;
        }
    }

    static String row(LateRules x, int table, int key) {
        return x.value(table, key, 0) + " " + x.value(table, key, 1) + " " + x.value(table, key, 2);
    }

    static String told(LateRules x, int rule) {
        StringBuilder all = new StringBuilder();
        for (int what = 0; what < 10; what++) {
            all.append(what == 0 ? "" : " ").append(x.told(rule, what));
        }
        return all.toString();
    }

    static void good(String text, String due) {
        LateRules x = new LateRules();
        is(text, Due.rule(x, text), 0);
        is(text, told(x, 0), due);
    }

    static void fault(String text, int place) {
        LateRules x = new LateRules();
        is("'" + text + "'", Due.rule(x, text), -1000 - place);
        is("rules behind '" + text + "'", x.count(0), 0);
    }

    static void refusedBy(LateRules x, int got, String words) {
        is("refused by " + words, got, -5);
        is("the verdict", Due.words(x), words);
    }

    static void failing(LateRules x, int rule, int subject, int state, int fails) {
        is("state of " + rule + " " + subject, x.question(rule, subject, 0), state);
        is("failing of " + rule + " " + subject, x.question(rule, subject, 1), fails);
    }
}
