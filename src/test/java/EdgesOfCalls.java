/** Promises 1 to 15: a new object, rules, acts, transactions. */
final class EdgesOfCalls extends Edges {
    static void run() {
        newObject();
        sign();
        end();
        rule();
        drop();
        later();
        laterInQueue();
        put();
        set();
        cut();
        rekey();
        begin();
        commit();
        abort();
        mark();
        back();
    }

    private static void newObject() {
        says(1, "No ROWS, no RULES.");
        LateRules x = new LateRules();
        each("rows", these(0, 1, 2), t -> x.rows(t, 0), 0);
        is("rows", x.count(1), 0);
        each("told", these(0, 1, 11), r -> x.told(r, 0), NOTHING);
        is("rules", x.count(0), 0);
        is("the first row has its place", x.put(0, 0, 0, 0, 0), 0);
        is("the first rule has number 0", Due.rule(x, "tree 0 1"), -5);
        is("the first rule has number 0", x.verdict(0), 0);
        LateRules other = new LateRules();
        is("another object has nothing of it", other.count(1), 0);
    }

    private static void sign() {
        says(2, "Four signs come behind THE TEXT, of v the highest byte first:");
        LateRules x = new LateRules();
        x.sign('t' << 24 | 'r' << 16 | 'e' << 8 | 'e');
        x.sign(' ' << 24 | '2' << 16 | ' ' << 8 | '1');
        is("tree 2 1", x.rule(), 0);
        is("tree 2 1", told(x, 0), "5 2 1 -1 0 0 0 50 0 0");
        x.sign('t' << 24 | 'r' << 16 | 'e' << 8 | 'e');
        x.sign(' ' << 24 | '2' << 16 | ' ' << 8 | '1');
        x.sign(-1);
        is("a sign above 127 in the highest byte", x.rule(), -1008);
        x.sign(0x80000000);
        is("the lowest number", x.count(8), 4);
        is("signs 128, 0, 0, 0", x.rule(), -1000);

        says(2, "how many it has.");
        for (int i = 1; i <= 20; i++) {
            is("sign", x.sign(0x20202020), 4 * i);
        }
        x.end(3);
        is("behind three", x.sign(0), 7);

        says(2, "NONE, and none comes: there would be more than 80.");
        x.end(0);
        for (int i = 0; i < 20; i++) {
            x.sign(0x20202020);
        }
        each("sign", these(0, MIN, MAX), v -> x.sign(v), -1);
        is("none came", x.count(8), 80);
        for (int left = 79; left > 76; left--) {
            x.end(left);
            is("sign behind " + left, x.sign('t'), -1);
            is("none came", x.count(8), left);
        }
        x.end(76);
        is("sign behind 76", x.sign(0x20202020), 80);
        is("what came first stays", x.rule(), -1080);
    }

    private static void end() {
        says(3, "THE TEXT has its first n signs alone: true;");
        LateRules x = new LateRules();
        Due.text(x, "tree 0 12345678");
        is("end(8)", x.end(8), true);
        is("signs", x.count(8), 8);
        is("the first ones", x.rule(), 0);
        is("tree 0 1", told(x, 0), "5 0 1 -1 0 0 0 50 0 0");
        is("end(0) of none", x.end(0), true);
        Due.text(x, "late");
        is("end(4) of four", x.end(4), true);
        is("end(0)", x.end(0), true);
        is("signs", x.count(8), 0);

        says(3, "false: it has not so many, n below 0.");
        is("end(1) of none", x.end(1), false);
        Due.text(x, "tree");
        is("end(5) of four", x.end(5), false);
        is("end(MAX)", x.end(MAX), false);
        is("end(-1)", x.end(-1), false);
        is("end(MIN)", x.end(MIN), false);
        is("signs", x.count(8), 4);
        is("they stay", x.rule(), -1004);
    }

    private static void rule() {
        says(4, "THE TEXT is a RULE more: its number.");
        LateRules x = new LateRules();
        is("the first", Due.rule(x, "tree 0 1"), 0);
        is("the second", Due.rule(x, "unique 0 1 late"), 1);
        is("told", told(x, 1), "0 0 1 -1 0 0 1 50 0 0");
        is("rules", x.count(0), 2);

        says(4, "-1000 and less by p: a FAULT at place p (asked first);");
        is("place 0", Due.rule(x, ""), -1000);
        is("place 9", Due.rule(x, "tree 0 0 x"), -1009);
        StringBuilder long80 = new StringBuilder("tree 0 0");
        while (long80.length() < 79) {
            long80.append(' ');
        }
        is("place 79", Due.rule(x, long80 + "x"), -1079);
        is("place 80", Due.rule(x, long80.substring(0, 74) + "  rank"), -1080);
        is("rules", x.count(0), 2);

        says(4, "-3: within a TRANSACTION;");
        x.begin();
        is("within", Due.rule(x, "tree 0 0"), -3);
        is("a fault is asked first", Due.rule(x, "tree 0"), -1006);
        x.commit();
        is("behind it", Due.rule(x, "tree 0 0"), 2);

        says(4, "-4: there are 12;");
        for (int i = 3; i < 12; i++) {
            is("rule", Due.rule(x, "tree 0 0"), i);
        }
        is("a 13th", Due.rule(x, "tree 0 0"), -4);
        is("a fault is asked first", Due.rule(x, "tree 0"), -1006);
        x.drop(7);
        is("one has gone", Due.rule(x, "tree 0 0"), 7);

        says(4, "-5: it does not hold (VERDICT: the first QUESTION of it that FAILS).");
        LateRules y = Due.with("tree 2 2");
        y.put(0, 9, 5, 5, 5);
        y.put(0, 8, 5, 4, 6);
        y.put(0, 7, -5, 4, 7);
        y.put(0, 6, -5, 6, 6);
        y.wouldCut(0, 6, 0);
        refusedBy(y, Due.rule(y, "unique 0 0"), "rule 1 unique -5");
        refusedBy(y, Due.rule(y, "refers 0 1 0"), "rule 1 refers 4");
        refusedBy(y, Due.rule(y, "range 0 1 6 6"), "rule 1 range 7");
        refusedBy(y, Due.rule(y, "sum 0 0 1 0 0"), "rule 1 sum -5");
        refusedBy(y, Due.rule(y, "count 0 2 0 1 9"), "rule 1 count 8");
        refusedBy(y, Due.rule(y, "tree 0 2"), "rule 1 tree 6");
        is("rules", y.count(0), 1);
        is("nothing was put into a queue", y.count(2), 0);
        is("nothing is counted as asked", y.count(4), 0);
    }

    private static void drop() {
        says(5, "A RULE goes: how many are left.");
        LateRules x = Due.with("range 0 0 0 5", "unique 0 1 late", "tree 0 2");
        is("against the first", x.put(0, 0, 6, 0, NULL), -5);
        is("drop(0)", x.drop(0), 2);
        is("without it", x.put(0, 0, 6, 0, NULL), 2);
        is("drop(2)", x.drop(2), 1);
        is("drop(1)", x.drop(1), 0);
        is("late ones", x.count(9), 0);

        says(5, "-2;");
        each("drop", these(0, 1, 2, 3, 11, 12, -1, MIN, MAX), r -> x.drop(r), -2);

        says(5, "-3: within a TRANSACTION.");
        LateRules y = Due.with("tree 0 0");
        y.begin();
        is("within", y.drop(0), -3);
        is("no such rule goes first", y.drop(1), -2);
        is("it stays", y.count(0), 1);
        y.abort();
        is("behind it", y.drop(0), 0);
    }

    private static void later() {
        says(6, "A RULE becomes late: those of its QUESTIONS of which STATE is another one than at BEGIN come into THE QUEUE;");
        LateRules x = Due.with("unique 0 0", "range 0 1 0 9 late", "unique 1 0");
        x.put(0, 0, 1, 1, 1);
        x.begin();
        x.put(0, 1, 2, 2, 2);
        x.set(0, 0, 0, 3);
        x.set(0, 0, 0, 1);
        x.wouldCut(0, 1, 0);
        is("2 alone is other than it was", x.later(0, true), 1);
        is("the queue", Due.queue(x), "0:2:0:1:0 1:1:-2000:2:0");
        is("none has changed", x.later(2, true), 0);
        is("late ones", x.count(9), 3);

        says(6, "or is late no more: its QUESTIONS in THE QUEUE are asked in ORDER, and leave it: how many came, left.");
        x.set(0, 0, 0, 4);
        int asked = x.count(4);
        x.wouldCut(0, 1, 0);
        is("1, 2, 4", x.later(0, false), 3);
        is("asked", x.count(4), asked + 3);
        is("the queue", Due.queue(x), "1:1:-2000:2:0");
        is("none", x.later(2, false), 0);
        is("late ones", x.count(9), 1);
        is("asked at once from then on", x.put(0, 2, 4, 2, 2), -5);
        x.abort();
        is("outside none comes", x.later(0, true), 0);
        is("outside none leaves", x.later(0, false), 0);

        says(6, "-2;");
        each("later", these(3, 11, 12, -1, MIN, MAX), r -> x.later(r, true), -2);
        each("later", these(3, 11, 12, -1, MIN, MAX), r -> x.later(r, false), -2);

        says(6, "-4: it is so;");
        is("late", x.later(1, true), -4);
        is("not late", x.later(0, false), -4);
        x.begin();
        is("late", x.later(1, true), -4);
        is("not late", x.later(0, false), -4);
    }

    private static void laterInQueue() {
        says(6, "-5: one FAILED, it stays late.");
        LateRules y = Due.with("range 0 0 0 5 late", "range 0 1 0 5 late rank 1");
        y.begin();
        y.put(0, 0, 1, 1, 1);
        y.put(0, 1, 6, 1, 1);
        y.put(0, 2, 7, 1, 1);
        String queue = Due.queue(y);
        int asked = y.count(4);
        refusedBy(y, y.later(0, false), "rule 0 range 1");
        is("asked up to it", y.count(4), asked + 2);
        is("it stays late", y.told(0, 6), 1);
        is("the queue stays", Due.queue(y), queue);
        is("what the acts did stays", y.count(1), 3);
        is("the other one holds", y.later(1, false), 3);
        y.set(0, 1, 0, 5);
        y.set(0, 2, 0, 5);
        is("now it holds", y.later(0, false), 3);
        is("not late", y.told(0, 6), 0);
    }

    private static void put() {
        says(7, "A ROW comes: how many QUESTIONS it TOUCHED.");
        LateRules x = new LateRules();
        is("without rules", x.put(2, 29, -99, 99, NULL), 0);
        is("the row", row(x, 2, 29), "-99 99 -1000");
        Due.rule(x, "unique 2 0");
        Due.rule(x, "tree 2 1 late");
        Due.rule(x, "range 0 0 0 9");
        is("late ones, too", x.put(2, 0, 1, 2, 1), 2);
        is("null is no subject", x.put(2, 1, NULL, 2, 1), 1);

        says(7, "-1 (VALUES, too);");
        each("table", these(-1, 3, MIN, MAX), n -> x.put(n, 5, 1, 1, 1), -1);
        each("key", these(-1, 30, MIN, MAX), n -> x.put(0, n, 1, 1, 1), -1);
        int[] bad = {-100, 100, -999, -1001, MIN, MAX};
        each("a", bad, n -> x.put(0, 5, n, 1, 1), -1);
        each("b", bad, n -> x.put(0, 5, 1, n, 1), -1);
        each("c", bad, n -> x.put(0, 5, 1, 1, n), -1);
        is("no row came", x.rows(0, 0), 0);

        says(7, "-4: there is such a ROW;");
        is("put", x.put(2, 29, 1, 1, 1), -4);
        is("also of the same values", x.put(2, 29, -99, 99, NULL), -4);
        is("it stays", row(x, 2, 29), "-99 99 -1000");
        is("that key of another table", x.put(1, 29, 1, 1, 1), 0);
        LateRules full = new LateRules();
        for (int key = 0; key < 30; key++) {
            full.put(0, key, key, key, key);
        }
        each("a full table", these(0, 13, 29), k -> full.put(0, k, 1, 1, 1), -4);
        is("a full table", full.put(0, 30, 1, 1, 1), -1);

        says(7, "-5.");
        refusedBy(x, x.put(0, 0, 10, 1, 1), "rule 2 range 0");
        refusedBy(x, x.put(2, 9, 9, 9, 1), "rule 1 tree 9");
        is("no row came", x.count(1), 4);
        x.begin();
        is("within it waits", x.put(2, 9, 9, 9, 1), 2);
    }

    private static void set() {
        says(8, "A VALUE of a ROW becomes v: likewise.");
        LateRules x = Due.with("unique 0 0 late", "range 0 1 -9 9");
        x.put(0, 0, 1, 1, 1);
        is("two of unique", x.set(0, 0, 0, 99), 2);
        is("one of range", x.set(0, 0, 1, -9), 1);
        is("none", x.set(0, 0, 2, -99), 0);
        is("the row", row(x, 0, 0), "99 -9 -99");
        is("to null", x.set(0, 0, 0, NULL), 1);
        is("from null", x.set(0, 0, 0, 5), 1);

        says(8, "-1;");
        each("table", these(-1, 3, MIN, MAX), n -> x.set(n, 0, 0, 1), -1);
        each("key", these(-1, 30, MIN, MAX), n -> x.set(0, n, 0, 1), -1);
        each("column", these(-1, 3, MIN, MAX), n -> x.set(0, 0, n, 1), -1);
        each("value", these(-100, 100, -999, -1001, MIN, MAX), n -> x.set(0, 0, 2, n), -1);

        says(8, "-2;");
        is("no such key", x.set(0, 29, 0, 1), -2);
        is("no such row of that table", x.set(1, 0, 0, 1), -2);

        says(8, "-4: it is so;");
        is("the same value", x.set(0, 0, 2, -99), -4);
        x.set(0, 0, 2, NULL);
        is("null already", x.set(0, 0, 2, NULL), -4);

        says(8, "-5.");
        refusedBy(x, x.set(0, 0, 1, 10), "rule 1 range 0");
        x.put(0, 1, 6, 0, 0);
        refusedBy(x, x.set(0, 1, 0, 5), "rule 0 unique 5");
        is("the rows stay", row(x, 0, 0) + " " + row(x, 0, 1), "5 -9 -1000 6 0 0");
        x.begin();
        is("within it waits", x.set(0, 1, 0, 5), 2);
    }

    private static void cut() {
        says(9, "A ROW goes: likewise.");
        LateRules x = Due.with("refers 1 0 0 late", "range 0 0 0 9", "unique 0 1");
        x.put(0, 0, 1, 1, 1);
        x.put(0, 29, 1, NULL, 1);
        is("refers, range, unique", x.cut(0, 0), 3);
        is("it is gone", x.rows(0, 1), 1 << 29);
        is("null is no subject: refers, range", x.cut(0, 29), 2);
        is("it is gone", x.count(1), 0);

        says(9, "-1;");
        each("table", these(-1, 3, MIN, MAX), n -> x.cut(n, 0), -1);
        each("key", these(-1, 30, MIN, MAX), n -> x.cut(0, n), -1);

        says(9, "-2;");
        is("it is gone already", x.cut(0, 0), -2);
        x.put(0, 0, 1, 1, 1);
        is("no such row of that table", x.cut(1, 0), -2);
        is("no such row", x.cut(0, 1), -2);

        says(9, "-5.");
        x.put(1, 0, 0, 0, 0);
        refusedBy(x, x.cut(0, 0), "rule 0 refers 0");
        is("rows", x.count(1), 2);
        x.begin();
        is("within it waits", x.cut(0, 0), 3);
        x.abort();
        x.later(0, false);
        x.begin();
        refusedBy(x, x.cut(0, 0), "rule 0 refers 0");
    }

    private static void rekey() {
        says(10, "A ROW of a TABLE has another KEY: likewise.");
        LateRules x = Due.with("range 0 0 0 9", "unique 0 1", "refers 1 0 0");
        x.put(0, 0, 1, 2, 3);
        is("range 0 and 29, refers 0 and 29", x.rekey(0, 0, 29), 4);
        is("the row", row(x, 0, 29), "1 2 3");
        is("the table", x.rows(0, 1), 1 << 29);
        is("back again", x.rekey(0, 29, 0), 4);

        says(10, "-1;");
        each("table", these(-1, 3, MIN, MAX), n -> x.rekey(n, 0, 1), -1);
        each("key", these(-1, 30, MIN, MAX), n -> x.rekey(0, n, 1), -1);
        each("to", these(-1, 30, MIN, MAX), n -> x.rekey(0, 0, n), -1);

        says(10, "-2;");
        is("no such row", x.rekey(0, 1, 2), -2);
        is("to itself, too", x.rekey(0, 1, 1), -2);
        is("no such row of that table", x.rekey(1, 0, 1), -2);

        says(10, "-4: there is such a ROW (itself, too);");
        x.put(0, 1, 4, 5, 6);
        is("another one", x.rekey(0, 0, 1), -4);
        is("itself", x.rekey(0, 0, 0), -4);
        is("the rows stay", row(x, 0, 0) + " " + row(x, 0, 1), "1 2 3 4 5 6");
        x.put(1, 7, 0, 0, 0);
        is("that key of another table is no matter", x.rekey(0, 1, 7), 4);

        says(10, "-5.");
        refusedBy(x, x.rekey(0, 0, 3), "rule 2 refers 0");
        is("the table stays", x.rows(0, 1), 1 | 1 << 7);
        x.later(2, true);
        refusedBy(x, x.rekey(0, 0, 3), "rule 2 refers 0");
        is("the table stays", x.rows(0, 1), 1 | 1 << 7);
        x.begin();
        is("within it waits", x.rekey(0, 0, 3), 4);
    }

    private static void begin() {
        says(11, "BEGIN: how many ROWS there are.");
        LateRules x = new LateRules();
        is("none", x.begin(), 0);
        x.put(0, 0, 0, 0, 0);
        x.put(1, 0, 0, 0, 0);
        x.put(2, 29, 0, 0, 0);
        x.commit();
        is("three", x.begin(), 3);

        says(11, "-3: one has begun.");
        is("again", x.begin(), -3);
        x.abort();
        is("it is over", x.begin(), 3);
        is("and another one", x.begin(), -3);
        LateRules full = new LateRules();
        for (int i = 0; i < 90; i++) {
            full.put(i / 30, i % 30, 0, 0, 0);
        }
        is("all there can be", full.begin(), 90);
    }

    private static void commit() {
        says(12, "COMMIT: how many QUESTIONS were asked");
        LateRules x = Due.with("unique 0 0 late", "unique 0 1");
        x.begin();
        is("none", x.commit(), 0);
        x.begin();
        for (int key = 0; key < 30; key++) {
            x.put(0, key, key, key, key);
        }
        int asked = x.count(4);
        is("thirty", x.commit(), 30);
        is("asked", x.count(4), asked + 30);
        is("asked", x.asked(NONE, 0), 30);

        says(12, "(the one that FAILED, too, but then -5 is told).");
        x.begin();
        x.set(0, 0, 0, NULL);
        x.set(0, 7, 0, 8);
        x.set(0, 9, 0, 99);
        asked = x.count(4);
        is("0, 7, 8", x.commit(), -5);
        is("asked, the one that failed, too", x.count(4), asked + 3);
        is("asked", Due.asked(x), "0:0:0 0:7:0 0:8:1");

        says(12, "-3;");
        is("again", x.commit(), -3);
        is("a new object", new LateRules().commit(), -3);

        says(12, "-5.");
        x.begin();
        x.set(0, 1, 0, 2);
        refusedBy(x, x.commit(), "rule 0 unique 2");
        is("as at begin", x.value(0, 1, 0), 1);
    }

    private static void abort() {
        says(13, "ABORT: all is as at BEGIN: how many QUESTIONS THE QUEUE had.");
        LateRules x = Due.with("unique 0 0 late", "unique 0 1");
        x.put(0, 0, 1, 1, 1);
        x.put(0, 1, 2, 2, 2);
        x.begin();
        is("none", x.abort(), 0);
        x.begin();
        x.set(0, 0, 0, 2);
        x.rekey(0, 1, 9);
        x.put(1, 1, 1, 1, 1);
        x.mark();
        is("1 and 2", x.abort(), 2);
        is("rows", x.rows(0, 1), 3);
        is("rows", x.rows(1, 1), 0);
        is("values", row(x, 0, 0) + " " + row(x, 0, 1), "1 1 1 2 2 2");
        is("over", x.count(3), 0);
        is("the queue", x.count(2), 0);
        x.begin();
        is("no marks", x.since(6), 0);
        x.abort();
        is("aborts", x.count(7), 3);

        says(13, "-3.");
        is("again", x.abort(), -3);
        is("not counted", x.count(7), 3);
        x.begin();
        x.commit();
        is("behind a commit", x.abort(), -3);
    }

    private static void mark() {
        says(14, "A MARK: its number.");
        LateRules x = new LateRules();
        x.begin();
        is("the first", x.mark(), 0);
        is("the second, of the same rows", x.mark(), 1);
        is("marks", x.since(6), 2);

        says(14, "-3;");
        x.commit();
        is("outside", x.mark(), -3);
        x.begin();
        is("anew", x.mark(), 0);

        says(14, "-4: there are 8.");
        for (int i = 1; i < 8; i++) {
            is("mark", x.mark(), i);
        }
        is("a ninth", x.mark(), -4);
        is("marks", x.since(6), 8);
        x.back(6);
        is("one is gone", x.mark(), 7);
        is("a ninth", x.mark(), -4);
    }

    private static void back() {
        says(15, "BACK: how many QUESTIONS THE QUEUE has then.");
        LateRules x = Due.with("unique 0 0 late", "range 0 1 0 9 late");
        x.put(0, 0, 1, 1, 1);
        x.begin();
        x.mark();
        x.put(0, 1, 2, 2, 2);
        x.mark();
        x.cut(0, 0);
        is("four wait", x.count(2), 4);
        is("back(1)", x.back(1), 2);
        is("two wait", x.count(2), 2);
        is("back(0)", x.back(0), 0);
        is("none waits", x.count(2), 0);

        says(15, "-3;");
        is("outside", new LateRules().back(0), -3);
        x.abort();
        each("outside", these(0, -1, 8, MIN, MAX), m -> x.back(m), -3);

        says(15, "-2 (behind that);");
        x.begin();
        is("none yet", x.back(0), -2);
        x.mark();
        each("no such mark", these(1, 7, 8, -1, MIN, MAX), m -> x.back(m), -2);
        is("such a mark", x.back(0), 0);

        says(15, "-5: a QUESTION of a RULE that is not late would FAIL then (nothing is gone back; VERDICT: the first in ORDER).");
        LateRules y = Due.with("range 0 0 0 5 late", "range 0 1 0 5 late rank 9", "unique 0 2 late rank 1");
        y.begin();
        y.put(0, 3, 6, 6, 1);
        y.put(0, 2, 6, 6, 1);
        y.mark();
        y.set(0, 3, 0, 1);
        y.set(0, 2, 0, 1);
        y.set(0, 3, 1, 1);
        y.set(0, 2, 1, 1);
        y.mark();
        y.put(0, 9, 1, 1, 9);
        is("late no more", y.later(0, false), 3);
        is("late no more", y.later(1, false), 3);
        String before = Picture.of(y);
        refusedBy(y, y.back(0), "rule 1 range 2");
        is("nothing is gone back", Picture.of(y), before);
        is("what is late may fail", y.back(1), 1);
        is("it is gone back", y.rows(0, 1), 1 << 2 | 1 << 3);
        is("it would fail", y.first(0), 2);
    }
}
