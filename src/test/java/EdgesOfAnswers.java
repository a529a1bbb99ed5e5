/** Promises 16 to 27: what there is. */
final class EdgesOfAnswers extends Edges {
    static void run() {
        value();
        rows();
        told();
        queue();
        group();
        asked();
        fresh();
        question();
        first();
        all();
        verdict();
        letter();
    }

    private static void value() {
        says(16, "A VALUE.");
        LateRules x = new LateRules();
        x.put(0, 0, -99, 99, NULL);
        x.put(2, 29, 1, 2, 3);
        is("the least", x.value(0, 0, 0), -99);
        is("the most", x.value(0, 0, 1), 99);
        is("null", x.value(0, 0, 2), -1000);
        is("the last of all", x.value(2, 29, 2), 3);

        says(16, "NoSuchElementException: no such ROW, COLUMN.");
        for (int n : these(-1, 3, MIN, MAX)) {
            Due.noValue(x, n, 0, 0);
            Due.noValue(x, 0, 0, n);
        }
        for (int n : these(-1, 1, 29, 30, 90, MIN, MAX)) {
            Due.noValue(x, 0, n, 0);
        }
        Due.noValue(x, 1, 0, 0);
        x.rekey(0, 0, 4);
        Due.noValue(x, 0, 0, 0);
        x.cut(0, 4);
        Due.noValue(x, 0, 4, 0);
        Due.noValue(new LateRules(), 0, 0, 0);
    }

    private static void rows() {
        says(17, "How many ROWS a TABLE has (what 0), KEYS of these as bits (1).");
        LateRules x = new LateRules();
        is("none", x.rows(0, 0), 0);
        is("none", x.rows(0, 1), 0);
        for (int key = 0; key < 30; key++) {
            x.put(1, key, 0, 0, 0);
        }
        x.put(2, 29, 0, 0, 0);
        x.put(2, 0, 0, 0, 0);
        is("all", x.rows(1, 0), 30);
        is("all", x.rows(1, 1), 0x3fffffff);
        is("first and last", x.rows(2, 0), 2);
        is("first and last", x.rows(2, 1), 1 << 29 | 1);

        says(17, "NONE: others.");
        each("table", these(-1, 3, MIN, MAX), t -> x.rows(t, 0), -1);
        each("table", these(-1, 3, MIN, MAX), t -> x.rows(t, 1), -1);
        each("what", these(-1, 2, MIN, MAX), w -> x.rows(1, w), -1);
    }

    private static void told() {
        says(18, "Of a RULE its kind (what 0: 0 unique, 1 refers, 2 range, 3 sum, 4 count, 5 tree), T (1), C (2),");
        LateRules x = Due.with("unique 1 2", "refers 2 1 0 cascade", "range 0 2 -7 8 late", "sum 1 0 2 -9999 9999 rank 0",
            "count 2 0 1 3 4 late rank 99", "tree 1 2", "refers 0 0 0 clear");
        for (int kind = 0; kind < 6; kind++) {
            is("kind", x.told(kind, 0), kind);
        }
        int[] tables = {1, 2, 0, 1, 2, 1, 0};
        int[] columns = {2, 1, 2, 0, 0, 2, 0};
        for (int rule = 0; rule < 7; rule++) {
            is("T", x.told(rule, 1), tables[rule]);
            is("C", x.told(rule, 2), columns[rule]);
        }

        says(18, "U or D (3; NONE without), LOW (4; 0 without), HIGH (5; 0 without),");
        int[] others = {-1, 0, -1, 2, 1, -1, 0};
        int[] lows = {0, 0, -7, -9999, 3, 0, 0};
        int[] highs = {0, 0, 8, 9999, 4, 0, 0};
        for (int rule = 0; rule < 7; rule++) {
            is("U or D", x.told(rule, 3), others[rule]);
            is("LOW", x.told(rule, 4), lows[rule]);
            is("HIGH", x.told(rule, 5), highs[rule]);
        }

        says(18, "1 if late, else 0 (6), RANK (7), 1 cascade, 2 clear, 0 neither (8),");
        int[] lates = {0, 0, 1, 0, 1, 0, 0};
        int[] ranks = {50, 50, 50, 0, 99, 50, 50};
        int[] actions = {0, 1, 0, 0, 0, 0, 2};
        for (int rule = 0; rule < 7; rule++) {
            is("late", x.told(rule, 6), lates[rule]);
            is("RANK", x.told(rule, 7), ranks[rule]);
            is("cascade, clear", x.told(rule, 8), actions[rule]);
        }
        x.later(0, true);
        is("late by later()", x.told(0, 6), 1);
        x.later(0, false);
        is("late no more", x.told(0, 6), 0);

        says(18, "how many of its QUESTIONS are in THE QUEUE (9).");
        x.begin();
        x.put(0, 3, NULL, 1, 1);
        x.put(0, 4, NULL, 1, 1);
        x.put(1, 4, NULL, 1, 1);
        is("range", x.told(2, 9), 2);
        is("count", x.told(4, 9), 1);
        is("one that is not late", x.told(0, 9), 0);
        x.abort();
        is("none outside", x.told(2, 9), 0);

        says(18, "Integer.MIN_VALUE: no such RULE, others.");
        each("rule", these(7, 11, 12, -1, MIN, MAX), r -> x.told(r, 0), MIN);
        each("rule", these(7, 11, 12, -1, MIN, MAX), r -> x.told(r, 9), MIN);
        each("what", these(-1, 10, MIN, MAX), w -> x.told(0, w), MIN);
        x.drop(3);
        is("one that is gone", x.told(3, 0), MIN);
    }

    /** THE QUEUE: range 2, 3 (fails), then unique -4, 4. */
    private static LateRules waiting() {
        LateRules x = Due.with("unique 0 0 late", "range 0 1 0 5 late rank 9", "range 0 2 0 5");
        x.put(0, 2, 4, 4, 4);
        x.begin();
        x.set(0, 2, 1, 5);
        x.put(0, 3, -4, 6, 4);
        x.set(0, 2, 0, NULL);
        return x;
    }

    private static void queue() {
        says(19, "The i-th (0 on) of THE QUEUE in ORDER: RULE (what 0), SUBJECT (1), STATE at BEGIN (2), now (3), 1 if it would FAIL, else 0 (4).");
        LateRules x = waiting();
        is("the queue", Due.queue(x), "1:2:4:5:0 1:3:-2000:6:1 0:-4:0:1:0 0:4:1:0:0");

        says(19, "NoSuchElementException: none such;");
        for (int i : these(-1, 4, MIN, MAX)) {
            Due.noQueue(x, i, 0);
            Due.noQueue(x, i, 4);
            Due.noQueue(x, i, 5);
        }
        is("the last", x.queue(3, 1), 4);

        says(19, "Integer.MIN_VALUE: others.");
        each("what", these(-1, 5, MIN, MAX), w -> x.queue(0, w), MIN);
        each("what", these(-1, 5, MIN, MAX), w -> x.queue(3, w), MIN);
        x.abort();
        Due.noQueue(x, 0, 0);
    }

    private static void group() {
        says(20, "RULES that have QUESTIONS in THE QUEUE: how many (i NONE, what 0, 1);");
        LateRules x = waiting();
        is("how many", x.group(NONE, 0), 2);
        is("how many", x.group(NONE, 1), 2);
        LateRules none = Due.with("unique 0 0 late");
        is("none outside", none.group(NONE, 0), 0);
        none.begin();
        is("none", none.group(NONE, 0), 0);
        is("none", none.group(NONE, 1), 0);

        says(20, "the i-th (0 on) in ORDER: its number (what 0), how many of its QUESTIONS are there (1).");
        is("the first", x.group(0, 0), 1);
        is("two", x.group(0, 1), 2);
        is("the second", x.group(1, 0), 0);
        is("two", x.group(1, 1), 2);
        x.put(0, 9, 8, 1, 1);
        is("three", x.group(0, 1), 3);
        is("three", x.group(1, 1), 3);
        LateRules sizes = Due.with("unique 0 0 late", "unique 0 1 late rank 99", "unique 0 2 late");
        sizes.begin();
        sizes.put(0, 0, 1, 1, 1);
        sizes.put(0, 1, NULL, 2, 2);
        sizes.put(0, 2, NULL, NULL, 3);
        sizes.put(0, 3, NULL, 3, NULL);
        is("groups of one and of three", sizes.group(NONE, 0), 3);
        int[] numbers = {0, 2, 1};
        int[] many = {1, 3, 3};
        for (int i = 0; i < 3; i++) {
            is("number", sizes.group(i, 0), numbers[i]);
            is("how many", sizes.group(i, 1), many[i]);
        }

        says(20, "NONE: others, another what for any i.");
        each("i", these(-2, 2, MIN, MAX), i -> x.group(i, 0), -1);
        each("i", these(-2, 2, MIN, MAX), i -> x.group(i, 1), -1);
        each("what", these(-1, 2, MIN, MAX), w -> x.group(0, w), -1);
        each("what", these(-1, 2, MIN, MAX), w -> x.group(NONE, w), -1);
        is("none", none.group(0, 0), -1);
    }

    private static void asked() {
        says(21, "What was asked by the latest commit(), or ACT outside of a TRANSACTION that came to its COMMIT, in ORDER: how many (i NONE, what 0 .. 2; 0 at first);");
        LateRules x = Due.with("unique 0 0 late", "range 0 1 0 5 late rank 9", "range 0 2 0 5");
        each("at first", these(0, 1, 2), w -> x.asked(NONE, w), 0);
        is("at first", x.asked(0, 0), -1);
        x.put(0, 1, -1, 1, 1);
        each("two", these(0, 1, 2), w -> x.asked(NONE, w), 2);
        x.begin();
        x.put(0, 2, 2, 2, 2);
        x.put(0, 3, 3, 3, 3);
        each("two still", these(0, 1, 2), w -> x.asked(NONE, w), 2);
        x.commit();
        each("four", these(0, 1, 2), w -> x.asked(NONE, w), 4);
        x.set(0, 1, 2, 2);
        is("an act that touched nothing late", x.asked(NONE, 0), 0);
        x.put(0, 4, -1, 6, 0);
        is("one that went back", x.asked(NONE, 0), 1);
        x.put(0, 4, -1, 6, 6);
        is("one that did not come to its commit", x.asked(NONE, 0), 1);
        x.begin();
        x.commit();
        is("a commit that asked nothing", x.asked(NONE, 0), 0);

        says(21, "the i-th: RULE (what 0; its number then), SUBJECT (1), 1 if it FAILED, else 0 (2).");
        x.put(0, 4, -1, 4, 0);
        is("asked", Due.asked(x), "1:4:0 0:-1:1");
        x.drop(1);
        Due.rule(x, "tree 0 1");
        is("its number then", x.asked(0, 0), 1);
        x.drop(1);
        x.drop(0);
        is("also without it", Due.asked(x), "1:4:0 0:-1:1");

        says(21, "NONE: others, another what for any i (a SUBJECT may be it, too).");
        each("i", these(-2, 2, MIN, MAX), i -> x.asked(i, 0), -1);
        each("i", these(-2, 2, MIN, MAX), i -> x.asked(i, 2), -1);
        each("what", these(-1, 3, MIN, MAX), w -> x.asked(0, w), -1);
        each("what", these(-1, 3, MIN, MAX), w -> x.asked(NONE, w), -1);
        is("a subject that is it", x.asked(1, 1), -1);
    }

    private static void fresh() {
        says(22, "How many of THE QUEUE have another STATE than at a MARK (what 0),");
        LateRules x = Due.with("unique 0 0 late", "range 0 1 0 9 late", "range 0 2 0 9");
        x.put(0, 0, 1, 1, 1);
        x.begin();
        x.mark();
        x.put(0, 1, 2, 2, 2);
        x.mark();
        is("unique 2, range 1", x.fresh(0, 0), 2);
        is("none", x.fresh(1, 0), 0);
        x.set(0, 1, 1, 3);
        is("both still", x.fresh(0, 0), 2);
        is("range 1", x.fresh(1, 0), 1);
        x.set(0, 1, 1, 2);
        is("as by the mark again", x.fresh(1, 0), 0);
        x.set(0, 1, 2, 5);
        is("of late ones alone", x.fresh(1, 0), 0);

        says(22, "how many QUESTIONS of RULES that are late now, which are not in THE QUEUE, had another one by the MARK than at BEGIN (1).");
        is("none by mark 0", x.fresh(0, 1), 0);
        is("none by mark 1", x.fresh(1, 1), 0);
        x.cut(0, 1);
        is("none by mark 0", x.fresh(0, 1), 0);
        is("unique 2, range 1", x.fresh(1, 1), 2);
        x.later(2, true);
        is("range 1 of rule 2, too", x.fresh(1, 1), 3);
        x.later(0, false);
        is("without unique 2", x.fresh(1, 1), 2);
        x.put(0, 1, 3, 3, 3);
        is("those are in the queue again", x.fresh(1, 1), 0);
        is("and other than by the mark", x.fresh(1, 0), 2);
        LateRules y = Due.with("unique 0 0 late", "range 0 1 0 9 late");
        y.put(0, 0, 1, 1, NULL);
        y.begin();
        y.set(0, 0, 1, 5);
        y.set(0, 0, 0, 7);
        y.mark();
        y.set(0, 0, 1, 1);
        y.wouldSet(0, 0, 1, 5);
        is("range 0 is as at begin", y.fresh(0, 1), 1);
        y.put(0, 1, 2, 2, 2);
        y.put(0, 2, 3, 3, 3);
        is("more wait than were asked: unique 2, 3, range 1, 2", y.fresh(0, 0), 4);
        is("range 0 is as at begin", y.fresh(0, 1), 1);

        says(22, "NONE: no such MARK, others.");
        each("mark", these(-1, 2, 7, 8, MIN, MAX), m -> x.fresh(m, 0), -1);
        each("mark", these(-1, 2, 7, 8, MIN, MAX), m -> x.fresh(m, 1), -1);
        each("what", these(-1, 2, MIN, MAX), w -> x.fresh(0, w), -1);
        x.later(0, true);
        x.back(0);
        is("gone by back()", x.fresh(1, 0), -1);
        x.commit();
        is("outside", x.fresh(0, 0), -1);
    }

    private static void question() {
        says(23, "STATE of a QUESTION now (what 0), 1 if it FAILS, else 0 (1).");
        LateRules x = Due.with("unique 0 0 late", "refers 0 0 1 late", "range 0 0 0 5 late", "sum 0 0 1 0 5 late", "count 0 0 1 0 1 late", "tree 0 0 late");
        failing(x, 0, 6, 0, 0);
        failing(x, 1, 6, 0, 0);
        failing(x, 2, 6, -2000, 0);
        failing(x, 3, 6, 100000, 0);
        failing(x, 4, 6, 0, 0);
        failing(x, 5, 6, -2000, 0);
        x.begin();
        x.put(0, 6, 6, 6, 6);
        failing(x, 0, 6, 1, 0);
        failing(x, 1, 6, 2, 1);
        failing(x, 2, 6, 6, 1);
        failing(x, 3, 6, 6, 1);
        failing(x, 4, 6, 2, 0);
        failing(x, 5, 6, 6, 1);
        x.put(1, 6, 6, 6, 6);
        x.put(0, 0, 6, -1, 0);
        failing(x, 0, 6, 2, 1);
        failing(x, 1, 6, 5, 0);
        failing(x, 3, 6, 5, 0);
        failing(x, 4, 6, 5, 1);

        says(23, "Integer.MIN_VALUE: no such RULE,");
        each("rule", these(6, 11, 12, -1, MIN, MAX), r -> x.question(r, 0, 0), MIN);
        each("rule", these(6, 11, 12, -1, MIN, MAX), r -> x.question(r, 0, 1), MIN);

        says(23, "a SUBJECT that can't be (a KEY 0 .. 29 of range, count, tree; a VALUE -99 .. 99 of the others),");
        for (int rule : these(2, 4, 5)) {
            each("key", these(-1, 30, 99, -99, NULL, MIN, MAX), s -> x.question(rule, s, 0), MIN);
            each("key", these(-1, 30), s -> x.question(rule, s, 1), MIN);
            each("key", these(1, 29), s -> x.question(rule, s, 1), 0);
        }
        for (int rule : these(0, 1, 3)) {
            each("value", these(-100, 100, NULL, -2000, MIN, MAX), s -> x.question(rule, s, 0), MIN);
            each("value", these(-100, 100, NULL), s -> x.question(rule, s, 1), MIN);
            each("value", these(-99, 99, -1, 30), s -> x.question(rule, s, 1), 0);
        }

        says(23, "others.");
        for (int rule = 0; rule < 6; rule++) {
            int asked = rule;
            each("what", these(-1, 2, MIN, MAX), w -> x.question(asked, 6, w), MIN);
        }
    }

    private static void first() {
        says(24, "Were it to COMMIT now: the first QUESTION that FAILS: RULE (what 0), SUBJECT (1), its place in ORDER (2; 0 on); how many of THE QUEUE FAIL (3).");
        LateRules x = Due.with("unique 0 0 late", "range 0 1 0 5 late rank 9", "range 0 2 0 5");
        x.begin();
        x.put(0, 5, -7, 6, 0);
        is("RULE", x.first(0), 1);
        is("SUBJECT", x.first(1), 5);
        is("place", x.first(2), 0);
        is("how many", x.first(3), 1);
        x.put(0, 6, -7, 5, 0);
        is("how many", x.first(3), 2);
        x.set(0, 5, 1, 5);
        is("RULE", x.first(0), 0);
        is("SUBJECT", x.first(1), -7);
        is("place", x.first(2), 2);
        is("how many", x.first(3), 1);

        says(24, "NONE: none does (what 0 to 2),");
        x.set(0, 6, 0, 7);
        each("what", these(0, 1, 2), w -> x.first(w), -1);
        is("how many", x.first(3), 0);
        is("it would commit", x.commit(), 4);

        says(24, "no TRANSACTION;");
        each("what", these(0, 1, 2, 3), w -> x.first(w), -1);
        x.put(0, 9, 7, 6, 0);
        each("what", these(0, 1, 2, 3), w -> x.first(w), -1);

        says(24, "Integer.MIN_VALUE: others.");
        x.begin();
        each("what", these(-1, 4, MIN, MAX), w -> x.first(w), MIN);
        x.put(0, 9, 7, 6, 0);
        each("what", these(-1, 4, MIN, MAX), w -> x.first(w), MIN);
    }

    private static void all() {
        says(25, "Of all RULES, late or not, all QUESTIONS there can be (KEYS 0 .. 29, VALUES -99 .. 99): how many FAIL (what 0), the first in ORDER: RULE (1), SUBJECT (2).");
        LateRules x = Due.with("refers 0 0 1 late", "range 0 1 0 5 late rank 60", "tree 0 2 late rank 60");
        x.begin();
        x.put(0, 29, 99, 6, NULL);
        x.put(0, 0, -99, 6, NULL);
        is("refers -99, 99, range 0, 29", x.all(0), 4);
        is("RULE", x.all(1), 0);
        is("SUBJECT", x.all(2), -99);
        x.set(0, 0, 0, NULL);
        is("SUBJECT", x.all(2), 99);
        x.set(0, 29, 0, NULL);
        is("RULE", x.all(1), 1);
        is("SUBJECT", x.all(2), 0);
        x.set(0, 0, 1, 5);
        is("SUBJECT", x.all(2), 29);
        x.set(0, 29, 1, 5);
        x.set(0, 29, 2, 0);
        is("none", x.all(0), 0);
        x.set(0, 0, 2, 29);
        is("both of a ring, touched or not", x.all(0), 2);
        x.later(0, false);
        is("RULE", x.all(1), 2);
        is("SUBJECT", x.all(2), 0);
        LateRules ring = Due.with("tree 0 0 late");
        ring.put(0, 0, NULL, 0, 0);
        ring.put(0, 1, 2, 0, 0);
        ring.put(0, 2, NULL, 0, 0);
        ring.begin();
        ring.set(0, 2, 0, 1);
        is("2 waits alone", Due.queue(ring), "0:2:-1000:1:1");
        is("both fail", ring.all(0), 2);
        is("RULE", ring.all(1), 0);
        is("SUBJECT", ring.all(2), 1);
        LateRules prompt = Due.with("tree 0 0 late", "unique 0 1");
        prompt.begin();
        prompt.put(0, 1, 2, 0, 0);
        prompt.put(0, 2, 1, 1, 0);
        prompt.put(0, 3, 3, 2, 0);
        prompt.mark();
        is("three", prompt.all(0), 3);
        prompt.abort();
        prompt.put(0, 1, NULL, 0, 0);
        is("outside none can", prompt.all(0), 0);

        says(25, "NONE: none (1, 2);");
        LateRules y = new LateRules();
        is("without rules", y.all(0), 0);
        is("without rules", y.all(1), -1);
        is("without rules", y.all(2), -1);
        is("all holds", prompt.all(1), -1);
        is("all holds", prompt.all(2), -1);

        says(25, "Integer.MIN_VALUE: others.");
        each("what", these(-1, 3, MIN, MAX), w -> x.all(w), MIN);
        each("what", these(-1, 3, MIN, MAX), w -> y.all(w), MIN);
    }

    private static void verdict() {
        says(26, "VERDICT: RULE (what 0), SUBJECT (1), how many signs THE WORDS have (2; 0 without).");
        LateRules x = Due.with("tree 0 2", "unique 0 0");
        is("0 without", x.verdict(2), 0);
        x.put(0, 0, -99, 0, NULL);
        is("refused", x.put(0, 1, -99, 0, NULL), -5);
        is("RULE", x.verdict(0), 1);
        is("SUBJECT", x.verdict(1), -99);
        is("rule 1 unique -99", x.verdict(2), 17);
        is("refused", x.set(0, 0, 2, 0), -5);
        is("rule 0 tree 0", x.verdict(2), 13);
        is("RULE", x.verdict(0), 0);
        is("SUBJECT", x.verdict(1), 0);

        says(26, "Integer.MIN_VALUE: nothing (0, 1), others.");
        each("what", these(-1, 3, MIN, MAX), w -> x.verdict(w), MIN);
        x.set(0, 0, 2, NULL);
        each("nothing", these(0, 1), w -> x.verdict(w), MIN);
        each("what", these(-1, 3, MIN, MAX), w -> x.verdict(w), MIN);
        is("0 without", x.verdict(2), 0);
    }

    private static void letter() {
        says(27, "The i-th sign of THE WORDS.");
        LateRules x = Due.with("range 0 0 0 5");
        x.put(0, 29, -1, 0, 0);
        String words = "rule 0 range 29";
        for (int i = 0; i < words.length(); i++) {
            is("sign " + i, x.letter(i), words.charAt(i));
        }

        says(27, "NONE.");
        each("sign", these(-1, words.length(), MIN, MAX), i -> x.letter(i), -1);
        x.put(0, 29, 1, 0, 0);
        each("without", these(0, 1, 14), i -> x.letter(i), -1);
        is("a new object", new LateRules().letter(0), -1);
    }
}
