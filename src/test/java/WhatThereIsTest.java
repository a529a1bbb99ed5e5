/** Promises 16 to 27: value, rows, told, queue, group, asked, fresh, question, first, all, verdict, letter. */
final class WhatThereIsTest {
    private static final int NULL = Due.NULL;
    private static final int NOTHING = Due.NOTHING;

    public static void main(String[] args) {
        values();
        rowsOfTables();
        toldOfRules();
        queueAndGroups();
        whatWasAsked();
        freshSinceMarks();
        questions();
        firstThatFails();
        allThatFails();
        verdictAndLetters();
        Due.finish("WhatThereIsTest");
    }

    private static void values() {
        LateRules x = new LateRules();
        x.put(1, 7, 4, NULL, -99);
        Due.is("value", x.value(1, 7, 0), 4);
        Due.is("null", x.value(1, 7, 1), NULL);
        Due.is("value", x.value(1, 7, 2), -99);
        Due.noValue(x, 1, 7, 3);
        Due.noValue(x, 1, 7, -1);
        Due.noValue(x, 1, 6, 0);
        Due.noValue(x, 0, 7, 0);
        Due.noValue(x, 3, 7, 0);
        Due.noValue(x, -1, 7, 0);
        Due.noValue(x, 1, 30, 0);
        Due.noValue(x, 1, -1, 0);
        Due.noValue(x, 1, 39, 0);
        Due.noValue(x, Integer.MAX_VALUE, Integer.MIN_VALUE, Integer.MAX_VALUE);
        x.cut(1, 7);
        Due.noValue(x, 1, 7, 0);
    }

    private static void rowsOfTables() {
        LateRules x = new LateRules();
        for (int key = 0; key < 30; key++) {
            x.put(2, key, 0, 0, 0);
        }
        x.put(0, 29, 0, 0, 0);
        Due.is("how many", x.rows(2, 0), 30);
        Due.is("keys", x.rows(2, 1), (1 << 30) - 1);
        Due.is("how many", x.rows(0, 0), 1);
        Due.is("keys", x.rows(0, 1), 1 << 29);
        Due.is("how many", x.rows(1, 0), 0);
        Due.is("table", x.rows(3, 0), -1);
        Due.is("table", x.rows(-1, 1), -1);
        Due.is("what", x.rows(0, 2), -1);
        Due.is("what", x.rows(0, -1), -1);
        x.rekey(0, 29, 1);
        Due.is("keys", x.rows(0, 1), 2);
    }

    private static void toldOfRules() {
        LateRules x = Due.with("sum 1 2 0 -3 44 late rank 6", "refers 0 1 2 clear");
        int[] sum = {3, 1, 2, 0, -3, 44, 1, 6, 0, 0};
        int[] refers = {1, 0, 1, 2, 0, 0, 0, 50, 2, 0};
        for (int what = 0; what < 10; what++) {
            Due.is("told(0, " + what + ")", x.told(0, what), sum[what]);
            Due.is("told(1, " + what + ")", x.told(1, what), refers[what]);
        }
        Due.is("what 10", x.told(0, 10), NOTHING);
        Due.is("what -1", x.told(0, -1), NOTHING);
        Due.is("rule 2", x.told(2, 0), NOTHING);
        Due.is("rule -1", x.told(-1, 0), NOTHING);
        Due.is("rule 12", x.told(12, 0), NOTHING);
        x.begin();
        x.put(1, 0, 0, 0, 1);
        x.put(1, 1, 0, 0, 2);
        Due.is("in the queue", x.told(0, 9), 2);
        Due.is("in the queue", x.told(1, 9), 0);
        x.commit();
        Due.is("in the queue", x.told(0, 9), 0);
    }

    private static LateRules waiting() {
        LateRules x = Due.with("unique 0 0 late rank 70", "range 0 1 0 5 late", "sum 0 0 1 0 9 late rank 0", "tree 0 2 late",
            "unique 0 1", "count 0 2 0 0 1 late rank 50");
        x.begin();
        x.put(0, 3, -8, 2, 4);
        x.put(0, 2, 6, 9, 2);
        return x;
    }

    private static void queueAndGroups() {
        LateRules x = waiting();
        Due.is("in order", Due.queue(x), "2:-8:100000:2:0 2:6:100000:9:0 1:2:-2000:9:1 1:3:-2000:2:0 "
            + "3:2:-2000:2:1 3:3:-2000:4:0 5:2:0:3:0 5:3:0:1:0 5:4:0:2:0 0:-8:0:1:0 0:6:0:1:0");
        Due.noQueue(x, 11, 0);
        Due.noQueue(x, -1, 0);
        Due.noQueue(x, Integer.MAX_VALUE, 0);
        Due.noQueue(x, 11, 5);
        Due.is("another what", x.queue(0, 5), NOTHING);
        Due.is("another what", x.queue(10, -1), NOTHING);
        Due.is("groups", x.group(-1, 0), 5);
        Due.is("groups", x.group(-1, 1), 5);
        int[] rules = {2, 1, 3, 5, 0};
        int[] sizes = {2, 2, 2, 3, 2};
        for (int i = 0; i < 5; i++) {
            Due.is("rule of a group", x.group(i, 0), rules[i]);
            Due.is("size of a group", x.group(i, 1), sizes[i]);
        }
        Due.is("group(5, 0)", x.group(5, 0), -1);
        Due.is("group(-2, 0)", x.group(-2, 0), -1);
        Due.is("group(0, 2)", x.group(0, 2), -1);
        Due.is("group(-1, 2)", x.group(-1, 2), -1);
        Due.is("group(-1, -1)", x.group(-1, -1), -1);
        x.abort();
        Due.is("no groups", x.group(-1, 0), 0);
        Due.is("no group", x.group(0, 0), -1);
        Due.noQueue(x, 0, 0);
    }

    private static void whatWasAsked() {
        LateRules x = waiting();
        Due.is("none at first", x.asked(-1, 0), 0);
        Due.is("commit", x.commit(), -5);
        for (int what = 0; what < 3; what++) {
            Due.is("how many", x.asked(-1, what), 3);
        }
        Due.is("asked", Due.asked(x), "2:-8:0 2:6:0 1:2:1");
        Due.is("none such", x.asked(3, 0), -1);
        Due.is("none such", x.asked(-2, 0), -1);
        Due.is("another what", x.asked(0, 3), -1);
        Due.is("another what", x.asked(-1, 3), -1);
        Due.is("another what", x.asked(-1, -1), -1);
        Due.is("a commit that is not the time", x.commit(), -3);
        Due.is("leaves it", x.asked(-1, 0), 3);
        x.begin();
        x.put(0, 0, NULL, NULL, NULL);
        x.abort();
        Due.is("begin, act, abort leave it", x.asked(-1, 0), 3);
        x.drop(2);
        Due.is("numbers as they were then", x.asked(0, 0), 2);
        Due.is("an act by itself", x.put(0, 0, NULL, 1, NULL), 4);
        Due.is("tells its own", Due.asked(x), "1:0:0 3:0:0 5:0:0");
    }

    private static void freshSinceMarks() {
        LateRules x = Due.with("unique 0 0 late", "range 0 1 0 5 late", "range 0 2 0 5");
        x.put(0, 0, 1, 1, 1);
        Due.is("no mark", x.fresh(0, 0), -1);
        x.begin();
        Due.is("no mark", x.fresh(0, 0), -1);
        x.put(0, 1, 2, 2, 2);
        x.set(0, 0, 1, 3);
        x.mark();
        Due.is("nothing fresh", x.fresh(0, 0), 0);
        Due.is("nothing settled", x.fresh(0, 1), 0);
        x.set(0, 1, 0, 4);
        Due.is("the queue", Due.queue(x), "0:4:0:1:0 1:0:1:3:0 1:1:-2000:2:0");
        Due.is("unique 4 is", x.fresh(0, 0), 1);
        Due.is("unique 2 is as at begin again", x.fresh(0, 1), 1);
        x.set(0, 0, 1, 1);
        Due.is("unique 4 is", x.fresh(0, 0), 1);
        Due.is("unique 2 and range 0 are", x.fresh(0, 1), 2);
        x.set(0, 1, 1, 5);
        Due.is("unique 4, range 1", x.fresh(0, 0), 2);
        x.mark();
        Due.is("by the next mark none", x.fresh(1, 0), 0);
        Due.is("by the next mark none", x.fresh(1, 1), 0);
        x.later(0, false);
        Due.is("of late ones alone", x.fresh(0, 0), 1);
        Due.is("of late ones alone", x.fresh(0, 1), 1);
        x.later(2, true);
        Due.is("one more late, the same by the mark", x.fresh(0, 0), 1);
        Due.is("what", x.fresh(0, 2), -1);
        Due.is("what", x.fresh(0, -1), -1);
        Due.is("mark", x.fresh(2, 0), -1);
        Due.is("mark", x.fresh(-1, 0), -1);
        Due.is("mark", x.fresh(8, 1), -1);
        x.back(0);
        Due.is("gone", x.fresh(1, 0), -1);
        Due.is("stays", x.fresh(0, 0), 0);
    }

    private static void question(LateRules x, int rule, int subject, int state, int fails) {
        Due.is("state of " + rule + " " + subject, x.question(rule, subject, 0), state);
        Due.is("failing of " + rule + " " + subject, x.question(rule, subject, 1), fails);
    }

    private static void questions() {
        LateRules x = Due.with("unique 0 0 late", "refers 0 1 1 late", "range 0 2 -5 5 late", "sum 0 0 1 -9 9 late",
            "count 0 1 1 0 1 late", "tree 0 2 late");
        x.begin();
        x.put(0, 1, 7, 4, 2);
        x.put(0, 2, 7, 4, 1);
        x.put(0, 3, -7, -4, 1);
        x.put(0, 4, 8, 6, NULL);
        x.put(0, 5, 8, NULL, 30);
        x.put(1, 4, 0, 0, 0);
        x.put(1, 9, 0, 0, 0);
        question(x, 0, 7, 2, 1);
        question(x, 0, -7, 1, 0);
        question(x, 0, 99, 0, 0);
        question(x, 0, -99, 0, 0);
        question(x, 1, 4, 5, 0);
        question(x, 1, -4, 2, 1);
        question(x, 1, 6, 2, 1);
        question(x, 1, 9, 1, 0);
        question(x, 1, 10, 0, 0);
        question(x, 2, 1, 2, 0);
        question(x, 2, 4, NULL, 0);
        question(x, 2, 5, 30, 1);
        question(x, 2, 6, -2000, 0);
        question(x, 3, 7, 8, 0);
        question(x, 3, 8, 6, 0);
        question(x, 3, 9, 100000, 0);
        question(x, 4, 4, 5, 1);
        question(x, 4, 9, 1, 0);
        question(x, 4, 6, 2, 0);
        question(x, 5, 1, 2, 1);
        question(x, 5, 2, 1, 1);
        question(x, 5, 3, 1, 0);
        question(x, 5, 4, NULL, 0);
        question(x, 5, 5, 30, 0);
        question(x, 5, 29, -2000, 0);
        for (int rule = 0; rule < 6; rule++) {
            boolean keys = rule == 2 || rule > 3;
            Due.is("too low a subject", x.question(rule, keys ? -1 : -100, 0), NOTHING);
            Due.is("too high a subject", x.question(rule, keys ? 30 : 100, 1), NOTHING);
            Due.is("another what", x.question(rule, 0, 2), NOTHING);
            Due.is("another what", x.question(rule, 0, -1), NOTHING);
        }
        Due.is("null is no subject", x.question(0, NULL, 0), NOTHING);
        Due.is("no such rule", x.question(6, 0, 0), NOTHING);
        Due.is("no such rule", x.question(-1, 0, 0), NOTHING);
    }

    private static void firstThatFails() {
        LateRules x = Due.with("unique 0 0 late", "range 0 1 0 5 late rank 60", "range 0 2 0 5");
        for (int what = 0; what < 4; what++) {
            Due.is("no transaction", x.first(what), -1);
        }
        x.begin();
        Due.is("none", x.first(0), -1);
        Due.is("none", x.first(1), -1);
        Due.is("none", x.first(2), -1);
        Due.is("none", x.first(3), 0);
        x.put(0, 0, -1, 7, 0);
        Due.is("rule", x.first(0), 1);
        Due.is("subject", x.first(1), 0);
        Due.is("place", x.first(2), 1);
        Due.is("how many", x.first(3), 1);
        x.put(0, 1, -1, 8, 0);
        x.put(0, 2, -5, 1, 0);
        Due.is("rule", x.first(0), 0);
        Due.is("subject", x.first(1), -1);
        Due.is("place", x.first(2), 1);
        Due.is("how many", x.first(3), 3);
        Due.is("what", x.first(4), NOTHING);
        Due.is("what", x.first(-1), NOTHING);
        int asked = x.count(4);
        x.first(0);
        Due.is("on paper", x.count(4), asked);
    }

    private static void allThatFails() {
        LateRules x = Due.with("unique 0 0 late", "range 0 1 0 5 late rank 60", "refers 0 2 1 late rank 49");
        Due.is("none", x.all(0), 0);
        Due.is("none", x.all(1), -1);
        Due.is("none", x.all(2), -1);
        x.begin();
        x.put(0, 0, -3, 7, NULL);
        x.put(0, 1, -3, 8, NULL);
        Due.is("three", x.all(0), 3);
        Due.is("rule", x.all(1), 0);
        Due.is("subject", x.all(2), -3);
        x.put(0, 2, NULL, NULL, 99);
        x.put(0, 3, NULL, NULL, -99);
        Due.is("five", x.all(0), 5);
        Due.is("rule", x.all(1), 2);
        Due.is("subject", x.all(2), -99);
        Due.is("what", x.all(3), NOTHING);
        Due.is("what", x.all(-1), NOTHING);
        x.abort();
        Due.is("none", x.all(0), 0);
    }

    private static void verdictAndLetters() {
        LateRules x = new LateRules();
        for (int i = 0; i < 11; i++) {
            Due.rule(x, "tree 2 2");
        }
        Due.is("letter of none", x.letter(0), -1);
        Due.is("rule 11", Due.rule(x, "unique 1 1"), 11);
        x.put(1, 0, 0, -99, 0);
        x.put(1, 1, 0, -99, 0);
        Due.is("rule", x.verdict(0), 11);
        Due.is("subject", x.verdict(1), -99);
        Due.is("signs", x.verdict(2), 18);
        Due.is("what", x.verdict(3), NOTHING);
        Due.is("what", x.verdict(-1), NOTHING);
        String words = "rule 11 unique -99";
        for (int i = 0; i < 18; i++) {
            Due.is("letter(" + i + ")", x.letter(i), words.charAt(i));
        }
        Due.is("letter(18)", x.letter(18), -1);
        Due.is("letter(-1)", x.letter(-1), -1);
        Due.is("letter(MAX)", x.letter(Integer.MAX_VALUE), -1);
        x.put(1, 1, 0, 0, 0);
        Due.is("nothing", x.verdict(0), NOTHING);
        Due.is("nothing", x.verdict(1), NOTHING);
        Due.is("no signs", x.verdict(2), 0);
        Due.is("no letter", x.letter(0), -1);
        Due.is("what", x.verdict(3), NOTHING);
        LateRules y = Due.with("sum 0 0 1 0 5");
        y.put(0, 0, 0, 6, 0);
        Due.is("words", Due.words(y), "rule 0 sum 0");
    }
}
