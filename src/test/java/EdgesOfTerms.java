/** The first part of the document's terms: tables, rows, values, and the texts of rules. */
final class EdgesOfTerms extends Edges {
    private static final String[] KINDS = {"unique 0 0", "refers 0 0 0", "range 0 0 0 0", "sum 0 0 0 0 0", "count 0 0 0 0 0", "tree 0 0"};

    static void run() {
        callsOfARun();
        tables();
        values();
        numbersOfRules();
        tokens();
        unique();
        refers();
        range();
        sum();
        count();
        tree();
        lateAndRank();
        bounds();
        faults();
    }

    private static void callsOfARun() {
        says("What it is", "An object is used for at most 512 calls after it has been made; what later calls answer is free.");
        LateRules x = new LateRules();
        x.begin();
        for (int call = 2; call <= 511; call++) {
            int key = call % 30;
            int due = call < 32 ? 0 : -4;
            is("call " + call, x.put(1, key, 1, 1, 1), due);
        }
        is("call 512", x.since(5), 480);
        LateRules y = new LateRules();
        for (int call = 1; call <= 510; call += 2) {
            y.sign('t' << 24 | 'r' << 16 | 'e' << 8 | 'e');
            is("call " + (call + 1), y.rule(), -1004);
        }
        is("call 511", y.sign(0), 4);
        is("call 512", y.rule(), -1000);
        fullestQueue();
    }

    /** By back() each of 12 rules has 90 questions of which the state changes: two values of 30 rows, and 30 keys. */
    private static void fullestQueue() {
        LateRules x = new LateRules();
        for (int rule = 0; rule < 12; rule++) {
            Due.rule(x, "refers 0 0 1 late");
        }
        x.begin();
        for (int key = 0; key < 30; key++) {
            x.put(0, key, key - 99, 0, 0);
        }
        x.mark();
        for (int key = 0; key < 30; key++) {
            x.set(0, key, 0, key + 30);
        }
        for (int key = 0; key < 30; key++) {
            x.put(1, key, 0, 0, 0);
        }
        is("the queue", x.count(2), 12 * 60);
        is("all of the queue that fail", x.first(3), 12 * 30);
        is("back", x.back(0), 12 * 30);
        is("left", x.since(2), 12 * 60);
        is("came", x.since(3), 12 * 30);
        is("the last of the queue", x.queue(12 * 30 - 1, 1), -70);
    }

    private static void tables() {
        says(I, "TABLES 0 .. 2;");
        LateRules x = new LateRules();
        each("a row of table", these(-1, 3, 4, MIN, MAX), t -> x.put(t, 0, 0, 0, 0), -1);
        each("a row of table", these(0, 1, 2), t -> x.put(t, 0, 0, 0, 0), 0);
        each("rows of table", these(0, 1, 2), t -> x.rows(t, 0), 1);

        says(I, "ROWS, each with a KEY 0 .. 29");
        each("a row with key", these(-1, 30, 31, 32, 64, MIN, MAX), k -> x.put(1, k, 0, 0, 0), -1);
        each("a row with key", these(1, 29), k -> x.put(1, k, 0, 0, 0), 0);
        is("keys", x.rows(1, 1), 1 << 29 | 2 | 1);

        says(I, "At first there are no ROWS.");
        LateRules y = new LateRules();
        each("rows of table", these(0, 1, 2), t -> y.rows(t, 0), 0);
        each("keys of table", these(0, 1, 2), t -> y.rows(t, 1), 0);
        is("rows", y.count(1), 0);
    }

    private static void values() {
        says(I, "and VALUES in COLUMNS 0 .. 2:");
        LateRules x = new LateRules();
        x.put(0, 0, 5, 6, 7);
        is("three values", row(x, 0, 0), "5 6 7");
        each("a value of column", these(-1, 3, MIN, MAX), c -> x.set(0, 0, c, 1), -1);
        each("a value of column", these(0, 1, 2), c -> x.set(0, 0, c, 1), 0);
        is("three values", row(x, 0, 0), "1 1 1");

        says(I, "-99 .. 99, or NULL (told as -1000).");
        int[] bad = {-100, 100, -999, -1001, -2000, 100000, MIN, MAX};
        each("a", bad, v -> x.put(0, 1, v, 0, 0), -1);
        each("b", bad, v -> x.put(0, 1, 0, v, 0), -1);
        each("c", bad, v -> x.put(0, 1, 0, 0, v), -1);
        each("v", bad, v -> x.set(0, 0, 2, v), -1);
        is("put", x.put(0, 1, -99, 99, -1000), 0);
        is("the values", row(x, 0, 1), "-99 99 -1000");
        is("put", x.put(0, 2, 99, -1000, -99), 0);
        is("the values", row(x, 0, 2), "99 -1000 -99");
        is("set", x.set(0, 0, 0, -99), 0);
        is("set", x.set(0, 0, 1, 99), 0);
        is("set", x.set(0, 0, 2, -1000), 0);
        is("the values", row(x, 0, 0), "-99 99 -1000");
    }

    private static void numbersOfRules() {
        says(I, "RULES, 12 at most, numbered from 0 on");
        LateRules x = new LateRules();
        for (int i = 0; i < 12; i++) {
            is("rule", Due.rule(x, "tree 0 0"), i);
        }
        is("a 13th", Due.rule(x, "tree 0 0"), -4);
        is("rules", x.count(0), 12);

        says(I, "(one that is gone leaves its number; a new one has the least free).");
        x.drop(5);
        x.drop(11);
        x.drop(0);
        x.drop(3);
        is("those behind it keep their numbers", x.told(4, 0), 5);
        is("it is gone", x.told(3, 0), NOTHING);
        each("the least free", these(0, 3, 5, 11), due -> Due.rule(x, "unique 0 0") - due, 0);
        is("and no more", Due.rule(x, "unique 0 0"), -4);
        is("the new one", x.told(5, 0), 0);
    }

    private static void tokens() {
        says(I, "THE TEXT of one: TOKENS with any blanks (32) between,");
        good("unique 1 2", "0 1 2 -1 0 0 0 50 0 0");
        good("   unique      1    2   ", "0 1 2 -1 0 0 0 50 0 0");
        good("unique1 2late rank3", "0 1 2 -1 0 0 1 3 0 0");
        each("a sign that is no blank", these(0, 1, 9, 10, 13, 31, 33, 127, 128, 160, 255), sign -> {
            LateRules x = new LateRules();
            return Due.rule(x, "unique" + (char) sign + "1 2");
        }, -1006);

        says(I, "words (longest rows of a .. z)");
        fault("uniquelate 1 2", 0);
        fault("unique 1 2 lates", 11);
        fault("unique 1 2 aate", 11);
        fault("unique 1 2 zate", 11);
        fault("unique 1 2 latea", 11);
        fault("unique 1 2 latez", 11);
        fault("uniqu e 1 2", 0);
        fault("unique 1 2 laterank 3", 11);
        fault("unique`1 2", 6);
        fault("unique{1 2", 6);
        fault("unique 1 2 LATE", 11);

        says(I, "and numbers (perhaps -, then one to four digits, the longest row of these):");
        good("range 0 0 -9999 9999", "2 0 0 -1 -9999 9999 0 50 0 0");
        good("range 0 0 1 10", "2 0 0 -1 1 10 0 50 0 0");
        good("range 0 0-8-7", "2 0 0 -1 -8 -7 0 50 0 0");
        good("range 0000 0002 0001 0010 rank 0007", "2 0 2 -1 1 10 0 7 0 0");
        good("range -0 -000 -0 0", "2 0 0 -1 0 0 0 50 0 0");
        fault("range 0 0 0 0/", 13);
        fault("range 0 0 0 0:", 13);
        fault("range 0 0 +1 2", 10);
        fault("range 0 0 0.5 2", 11);
    }

    private static void unique() {
        says(I, "unique T C: no two ROWS of TABLE T have the same VALUE");
        LateRules x = Due.with("unique 1 2");
        is("the first", x.put(1, 0, 0, 0, 99), 1);
        refusedBy(x, x.put(1, 1, 0, 0, 99), "rule 0 unique 99");
        is("another value", x.put(1, 1, 0, 0, -99), 1);
        refusedBy(x, x.put(1, 2, 0, 0, -99), "rule 0 unique -99");
        is("another table", x.put(0, 0, 99, 99, 99), 0);
        is("another table", x.put(2, 0, 99, 99, 99), 0);

        says(I, "(NULL aside) in COLUMN C.");
        is("null", x.put(1, 2, 0, 0, NULL), 0);
        is("null again", x.put(1, 3, 0, 0, NULL), 0);
        is("another column", x.set(1, 3, 0, 99), 0);
        is("another column", x.set(1, 3, 1, -99), 0);

        says(I, "SUBJECT: the VALUE. STATE: how many ROWS have it.");
        LateRules y = Due.with("unique 0 0 late");
        y.begin();
        failing(y, 0, 5, 0, 0);
        for (int key = 0; key < 30; key++) {
            y.put(0, key, 5, 5, 5);
            failing(y, 0, 5, key + 1, key == 0 ? 0 : 1);
        }
        is("the queue", Due.queue(y), "0:5:0:30:1");
    }

    private static void refers() {
        says(I, "refers T C U, and perhaps behind it cascade, or clear:");
        good("refers 1 0 2", "1 1 0 2 0 0 0 50 0 0");
        good("refers 1 0 2 cascade", "1 1 0 2 0 0 0 50 1 0");
        good("refers 1 0 2 clear", "1 1 0 2 0 0 0 50 2 0");
        fault("refers 1 0 2 clear cascade", 19);
        fault("refers 1 0 2 cascade cascade", 21);

        says(I, "each VALUE (NULL aside) of T in C is a KEY of a ROW of U.");
        LateRules x = Due.with("refers 0 1 2");
        is("null", x.put(0, 0, 9, NULL, 9), 0);
        each("no such key", these(0, 5, 29, 30, 99, -1, -99), v -> x.put(0, 1, 9, v, 9), -5);
        is("that key in another table", x.put(1, 5, 0, 0, 0), 0);
        refusedBy(x, x.put(0, 1, 9, 5, 9), "rule 0 refers 5");
        each("a row of U", these(0, 5, 29), k -> x.put(2, k, 0, 0, 0), 1);
        each("such a key", these(0, 5, 29), k -> x.put(0, (k + 2) % 30, 9, k, 9), 1);
        refusedBy(x, x.set(0, 1, 1, -99), "rule 0 refers -99");
        refusedBy(x, x.set(0, 1, 1, 30), "rule 0 refers 30");
        refusedBy(x, x.cut(2, 29), "rule 0 refers 29");
        is("to null", x.set(0, 1, 1, NULL), 1);

        says(I, "SUBJECT: the VALUE. STATE: twice how many ROWS have it, 1 more if U has such a ROW.");
        LateRules y = Due.with("refers 0 1 0 late");
        y.begin();
        failing(y, 0, 3, 0, 0);
        y.put(0, 1, NULL, 3, NULL);
        failing(y, 0, 3, 2, 1);
        failing(y, 0, 1, 1, 0);
        y.put(0, 2, NULL, 3, NULL);
        failing(y, 0, 3, 4, 1);
        y.put(0, 3, NULL, 3, NULL);
        failing(y, 0, 3, 7, 0);
        y.put(0, 4, NULL, -99, NULL);
        failing(y, 0, -99, 2, 1);
        is("the queue", Due.queue(y), "0:-99:0:2:1 0:1:0:1:0 0:2:0:1:0 0:3:0:7:0 0:4:0:1:0");
    }

    private static void range() {
        says(I, "range T C LOW HIGH: VALUES (NULL aside) of T in C are LOW .. HIGH.");
        LateRules x = Due.with("range 2 1 -5 7");
        each("outside", these(-99, -6, 8, 99), v -> x.put(2, 0, 0, v, 0), -5);
        is("LOW", x.put(2, 0, 0, -5, 0), 1);
        is("HIGH", x.put(2, 1, 0, 7, 0), 1);
        is("null", x.put(2, 2, 0, NULL, 0), 1);
        is("other columns", x.put(2, 3, 8, 0, -6), 1);
        is("other tables", x.put(1, 3, 8, 8, 8), 0);
        LateRules one = Due.with("range 0 0 4 4");
        each("one value alone", these(3, 5), v -> one.put(0, 0, v, 0, 0), -5);
        is("that value", one.put(0, 0, 4, 0, 0), 1);
        LateRules none = Due.with("range 0 0 100 9999");
        each("no value at all", these(-99, 0, 99), v -> none.put(0, 0, v, 0, 0), -5);
        is("but null", none.put(0, 0, NULL, 0, 0), 1);

        says(I, "SUBJECT: the KEY. STATE: the VALUE (-1000: NULL), -2000 if there is no such ROW.");
        LateRules y = Due.with("range 0 2 0 9 late");
        y.begin();
        failing(y, 0, 29, -2000, 0);
        y.put(0, 29, 1, 1, NULL);
        failing(y, 0, 29, -1000, 0);
        y.set(0, 29, 2, 10);
        failing(y, 0, 29, 10, 1);
        y.set(0, 29, 2, 0);
        failing(y, 0, 29, 0, 0);
        y.cut(0, 29);
        failing(y, 0, 29, -2000, 0);
        LateRules z = Due.with("range 0 2 -9999 -1000 late");
        z.begin();
        z.put(0, 0, 1, 1, NULL);
        failing(z, 0, 0, -1000, 0);
        failing(z, 0, 1, -2000, 0);
        LateRules w = Due.with("range 0 2 -99 99 late");
        w.begin();
        w.put(0, 0, 1, 1, NULL);
        failing(w, 0, 0, -1000, 0);
        failing(w, 0, 1, -2000, 0);
    }

    private static void sum() {
        says(I, "sum T C D LOW HIGH: of all ROWS of T with the same VALUE (NULL aside) in C");
        LateRules x = Due.with("sum 0 0 1 -3 3");
        is("a group", x.put(0, 0, 99, 3, 99), 1);
        is("another group", x.put(0, 1, -99, 3, 99), 1);
        is("no group", x.put(0, 2, NULL, 99, 99), 0);
        is("no group", x.put(0, 3, NULL, 99, 99), 0);
        is("another table", x.put(1, 3, 99, 99, 99), 0);
        refusedBy(x, x.put(0, 4, 99, 1, 99), "rule 0 sum 99");
        refusedBy(x, x.put(0, 4, -99, 1, 99), "rule 0 sum -99");
        for (int table = 0; table < 3; table++) {
            for (int column = 0; column < 3; column++) {
                LateRules one = Due.with("sum " + table + " " + column + " " + column + " 0 99");
                one.put(0, 0, 7, 7, 7);
                one.put(1, 0, 7, 7, 7);
                one.put(2, 0, 7, 7, 7);
                is("one row of one table and column", one.question(0, 7, 0), 7);
            }
        }

        says(I, "the VALUES in D (NULL being 0) are LOW .. HIGH together.");
        is("HIGH", x.put(0, 4, 99, 0, 0), 0);
        is("above HIGH", x.set(0, 4, 1, 1), -5);
        is("LOW", x.set(0, 4, 1, -6), 1);
        is("below LOW", x.set(0, 4, 1, -7), -5);
        is("null is 0", x.set(0, 4, 1, NULL), 1);
        is("0 is null's like", x.set(0, 4, 1, 0), 0);
        LateRules y = Due.with("sum 0 0 0 -9999 9999 late", "sum 0 0 1 1 9999 late");
        y.begin();
        for (int key = 0; key < 30; key++) {
            y.put(0, key, 99, NULL, 0);
        }
        failing(y, 0, 99, 2970, 0);
        failing(y, 1, 99, 0, 1);

        says(I, "SUBJECT: the VALUE in C. STATE: that sum, 100,000 if there are no such ROWS.");
        failing(y, 0, 98, 100000, 0);
        failing(y, 1, 98, 100000, 0);
        for (int key = 0; key < 30; key++) {
            y.set(0, key, 0, -99);
        }
        failing(y, 0, 99, 100000, 0);
        failing(y, 0, -99, -2970, 0);
        is("the queue", Due.queue(y), "0:-99:100000:-2970:0 1:-99:100000:0:1");
    }

    private static void count() {
        says(I, "count T C U LOW HIGH: for each ROW of U the ROWS of T that have its KEY as VALUE in C are LOW .. HIGH many.");
        LateRules x = Due.with("count 0 2 1 1 2");
        refusedBy(x, x.put(1, 29, 29, 29, 29), "rule 0 count 29");
        is("rows without one of U", x.put(0, 0, 0, 0, 29), 1);
        is("that row, with LOW", x.put(1, 29, 0, 0, 0), 1);
        refusedBy(x, x.set(0, 0, 2, 28), "rule 0 count 29");
        is("HIGH", x.put(0, 1, 0, 0, 29), 1);
        refusedBy(x, x.put(0, 2, 0, 0, 29), "rule 0 count 29");
        is("other columns", x.put(0, 2, 29, 29, NULL), 0);
        is("other tables", x.put(2, 2, 29, 29, 29), 0);
        each("no keys", these(-99, -1, 30, 99), v -> x.set(0, 2, 2, v), 0);
        LateRules none = Due.with("count 0 0 0 0 0");
        is("none may be", none.put(0, 0, NULL, 0, 0), 1);
        refusedBy(none, none.set(0, 0, 0, 0), "rule 0 count 0");
        LateRules never = Due.with("count 0 0 1 31 40");
        is("more than can be", never.put(1, 0, 0, 0, 0), -5);
        LateRules low = Due.with("count 0 0 1 -9 -1");
        is("fewer than can be", low.put(1, 0, 0, 0, 0), -5);

        LateRules beside = Due.with("unique 0 0", "count 0 0 1 0 9");
        is("a value that is a key: unique and count", beside.put(0, 0, 29, 0, 0), 2);
        is("one that is none: unique", beside.put(0, 1, 30, 0, 0), 1);
        is("one that is none: unique", beside.put(0, 2, -1, 0, 0), 1);

        says(I, "SUBJECT: the KEY. STATE: twice how many these are, 1 more if U has such a ROW.");
        LateRules y = Due.with("count 0 2 1 1 30 late");
        y.begin();
        failing(y, 0, 7, 0, 0);
        y.put(1, 7, 0, 0, 0);
        failing(y, 0, 7, 1, 1);
        for (int key = 0; key < 30; key++) {
            y.put(0, key, 0, 0, 7);
        }
        failing(y, 0, 7, 61, 0);
        y.cut(1, 7);
        failing(y, 0, 7, 60, 0);
        is("the queue", Due.queue(y), "0:7:0:60:0");
    }

    private static void tree() {
        says(I, "tree T C: from a ROW of T to that one of which its VALUE in C is the KEY (if there is one), and so on,");
        LateRules x = Due.with("tree 1 0");
        each("no row there", these(29, 30, 99, -1, -99, NULL), v -> {
            x.cut(1, 3);
            return x.put(1, 3, v, 3, 3);
        }, 1);
        is("other tables", x.put(0, 3, 3, 3, 3), 0);

        says(I, "one never comes to that ROW again.");
        refusedBy(x, x.put(1, 4, 4, 0, 0), "rule 0 tree 4");
        is("down", x.put(1, 4, 3, 0, 0), 1);
        is("further down", x.put(1, 5, 4, 0, 0), 1);
        refusedBy(x, x.set(1, 3, 0, 5), "rule 0 tree 3");
        refusedBy(x, x.set(1, 3, 0, 3), "rule 0 tree 3");
        LateRules y = Due.with("tree 0 0 late");
        y.begin();
        for (int key = 0; key < 30; key++) {
            y.put(0, key, (key + 1) % 30, 0, 0);
        }
        is("the longest ring", y.all(0), 30);
        y.set(0, 29, 0, 28);
        is("a ring of two, to which all others come", y.all(0), 2);
        is("the first of it", y.all(2), 28);
        failing(y, 0, 0, 1, 0);
        failing(y, 0, 27, 28, 0);

        says(I, "SUBJECT: the KEY. STATE: as of range.");
        failing(y, 0, 29, 28, 1);
        y.set(0, 29, 0, NULL);
        failing(y, 0, 29, -1000, 0);
        y.cut(0, 29);
        failing(y, 0, 29, -2000, 0);
    }

    private static void lateAndRank() {
        says(I, "Behind each perhaps: late;");
        for (String kind : KINDS) {
            LateRules x = Due.with(kind, kind + " late");
            is(kind, x.told(0, 6), 0);
            is(kind + " late", x.told(1, 6), 1);
            fault(kind + " late late", kind.length() + 6);
        }

        says(I, "then perhaps: rank and a number 0 .. 99 (50 without).");
        for (String kind : KINDS) {
            LateRules x = Due.with(kind, kind + " rank 0", kind + " late rank 99");
            is(kind, x.told(0, 7), 50);
            is(kind + " rank 0", x.told(1, 7), 0);
            is(kind + " late rank 99", x.told(2, 7), 99);
            fault(kind + " rank -1", kind.length() + 6);
            fault(kind + " rank 100", kind.length() + 6);
            fault(kind + " rank 5 late", kind.length() + 8);
            fault(kind + " rank 5 rank 5", kind.length() + 8);
            fault(kind + " rank", kind.length() + 5);
            fault(kind + " rank late", kind.length() + 6);
        }
    }

    private static void bounds() {
        says(I, "T, U: 0 .. 2;");
        for (String kind : new String[] {"unique N 0", "refers N 0 0", "range N 0 0 0", "sum N 0 0 0 0", "count N 0 0 0 0", "tree N 0",
            "refers 0 0 N", "count 0 0 N 0 0"}) {
            zeroToTwo(kind);
        }

        says(I, "C, D: 0 .. 2;");
        for (String kind : new String[] {"unique 0 N", "refers 0 N 0", "range 0 N 0 0", "sum 0 N 0 0 0", "count 0 N 0 0 0", "tree 0 N",
            "sum 0 0 N 0 0"}) {
            zeroToTwo(kind);
        }

        says(I, "LOW, HIGH: any number, HIGH not below LOW.");
        for (String kind : new String[] {"range 0 0 ", "sum 0 0 0 ", "count 0 0 0 "}) {
            for (int bound : these(-9999, -1, 0, 1, 9999)) {
                LateRules x = Due.with(kind + bound + " " + bound);
                is(kind + "LOW " + bound, x.told(0, 4), bound);
                is(kind + "HIGH " + bound, x.told(0, 5), bound);
            }
            is(kind + "-9999 9999", Due.rule(new LateRules(), kind + "-9999 9999"), 0);
            fault(kind + "0 -1", kind.length() + 2);
            fault(kind + "9999 9998", kind.length() + 5);
            fault(kind + "-9998 -9999", kind.length() + 6);
        }
    }

    private static void zeroToTwo(String kind) {
        int place = kind.indexOf('N');
        for (int number = 0; number < 3; number++) {
            is(kind + " " + number, Due.rule(new LateRules(), kind.replace("N", "" + number)), 0);
        }
        fault(kind.replace("N", "-1"), place);
        fault(kind.replace("N", "3"), place);
        fault(kind.replace("N", "9999"), place);
    }

    private static void faults() {
        says(I, "FAULTS: the first place of a token that can't stand there (its first sign),");
        fault("late", 0);
        fault("  7", 2);
        fault("0 1", 0);
        fault("0 unique 0 1", 0);
        fault("  unlike 0 0", 2);
        fault("unique late 0", 7);
        fault("unique unique", 7);
        fault("unique 0 0 7", 11);
        fault("unique 0 0   cascade", 13);
        fault("tree x y", 5);

        says(I, "of a sign that begins none,");
        fault("Unique 0 0", 0);
        fault("unique 0 0.", 10);
        fault("unique 0 ,", 9);
        fault("unique 0 0 -", 11);
        fault("unique 0 0 late#", 15);
        fault("\u0000", 0);
        fault("   \u00ff", 3);

        says(I, "of a number out of bounds (also of five digits and more),");
        fault("unique 3 0", 7);
        fault("unique 0 -1", 9);
        fault("range 0 0 10000 10001", 10);
        fault("range 0 0 00000 1", 10);
        fault("range 0 0 -00000 1", 10);
        fault("range 0 0 0 12345678901234567890", 12);
        fault("unique 0 0 rank 100", 16);
        fault("unique 0 0 rank 00001", 16);
        fault("range 0 0 4294967296 1", 10);

        says(I, "the text's length if it ends too early.");
        fault("", 0);
        fault("     ", 5);
        fault("unique", 6);
        fault("unique 0", 8);
        fault("unique 0  ", 10);
        fault("refers 0 0", 10);
        fault("range 0 0", 9);
        fault("range 0 0 1", 11);
        fault("sum 0 0", 7);
        fault("sum 0 0 0", 9);
        fault("sum 0 0 0 1 ", 12);
        fault("count 0 0 0", 11);
        fault("count 0 0 0 1", 13);
        fault("tree 0", 6);
        fault("tree 0 0 late rank", 18);
        StringBuilder long80 = new StringBuilder("tree 0");
        while (long80.length() < 80) {
            long80.append(' ');
        }
        fault(long80.toString(), 80);
    }
}
