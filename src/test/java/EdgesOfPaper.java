/** Promises 28 to 34: on paper. */
final class EdgesOfPaper extends Edges {
    static void run() {
        wouldSet();
        wouldSetStays();
        wouldCut();
        wouldCutTells();
        leans();
        least();
        leastOfRules();
        depth();
        since();
        count();
    }

    private static LateRules rowsOfRules() {
        LateRules x = Due.with("range 0 0 0 5", "unique 0 1 late", "refers 1 0 0 clear");
        x.put(0, 0, 1, 1, 1);
        x.put(0, 1, 2, 2, 2);
        x.put(1, 0, 0, 0, 0);
        return x;
    }

    private static void wouldSet() {
        says(28, "What set() would tell,");
        int[] values = {-1000, -99, -1, 0, 1, 2, 5, 6, 99, 100, MIN, MAX};
        for (int v : values) {
            for (int column : these(-1, 0, 1, 2, 3)) {
                LateRules x = rowsOfRules();
                int would = x.wouldSet(0, 0, column, v);
                is("set(0, 0, " + column + ", " + v + ")", would, x.set(0, 0, column, v));
                LateRules y = rowsOfRules();
                y.begin();
                would = y.wouldSet(0, 0, column, v);
                is("within set(0, 0, " + column + ", " + v + ")", would, y.set(0, 0, column, v));
            }
        }
        LateRules x = rowsOfRules();
        each("table", these(-1, 3, MIN, MAX), t -> x.wouldSet(t, 0, 0, 2), -1);
        each("key", these(-1, 30, MIN, MAX), k -> x.wouldSet(0, k, 0, 2), -1);
        each("column", these(-1, 3, MIN, MAX), c -> x.wouldSet(0, 0, c, 2), -1);
        each("value", these(-100, 100, -999, -1001, MIN, MAX), v -> x.wouldSet(0, 0, 0, v), -1);
        is("no such row", x.wouldSet(0, 2, 0, 2), -2);
        is("it is so", x.wouldSet(0, 0, 0, 1), -4);
        is("it fails", x.wouldSet(0, 0, 0, 6), -5);
        is("range", x.wouldSet(0, 0, 0, 5), 1);
        is("none", x.wouldSet(0, 0, 2, 5), 0);

        says(28, "(outside of a TRANSACTION -5, too, if its COMMIT would go back).");
        is("outside", x.wouldSet(0, 0, 1, 2), -5);
        x.begin();
        is("within", x.wouldSet(0, 0, 1, 2), 2);
    }

    private static void wouldSetStays() {
        says(28, "VERDICT and all else staying");
        for (int within = 0; within < 2; within++) {
            LateRules x = rowsOfRules();
            x.sign(0);
            if (within == 1) {
                x.begin();
                x.set(0, 0, 1, 7);
                x.mark();
                x.set(0, 0, 1, 8);
            }
            is("a verdict", x.put(0, 29, 6, 6, 6), -5);
            String before = Picture.withVerdict(x);
            x.wouldSet(0, 0, 0, 5);
            x.wouldSet(0, 0, 0, 6);
            x.wouldSet(0, 0, 1, 2);
            x.wouldSet(0, 0, 1, 9);
            x.wouldSet(0, 0, 0, 1);
            x.wouldSet(0, 9, 0, 1);
            x.wouldSet(0, 0, 0, 100);
            is("all stays", Picture.withVerdict(x), before);
        }
    }

    private static LateRules rowsThatFollow() {
        LateRules x = Due.with("refers 1 0 0 cascade", "refers 1 1 0 clear", "refers 2 0 1 clear", "refers 2 1 1", "refers 0 0 0 cascade");
        x.put(0, 0, NULL, 0, 0);
        x.put(0, 1, 0, 0, 0);
        x.put(0, 2, NULL, 0, 0);
        x.put(1, 0, 0, 0, 0);
        x.put(1, 1, 1, 0, 0);
        x.put(1, 2, NULL, 1, 0);
        x.put(1, 3, 2, 0, 0);
        x.put(2, 0, 1, NULL, 0);
        x.put(2, 1, 3, 3, 0);
        return x;
    }

    private static void wouldCut() {
        says(29, "Were a ROW cut: how many ROWS would go with it, itself, too (what 0),");
        LateRules x = rowsThatFollow();
        is("(0,0), (0,1), (1,0), (1,1)", x.wouldCut(0, 0, 0), 4);
        is("(0,2), (1,3)", x.wouldCut(0, 2, 0), 2);
        is("itself", x.wouldCut(1, 2, 0), 1);

        says(29, "how many VALUES would become NULL in ROWS that stay (1; both whether or not cut() would be REFUSED),");
        is("of (1,2), (1,3), (2,0)", x.wouldCut(0, 0, 1), 3);
        LateRules first = Due.with("refers 0 0 0 clear", "refers 2 2 0 clear");
        first.put(0, 29, NULL, 0, 0);
        first.put(0, 0, 29, 0, 0);
        first.put(2, 29, 0, 0, 29);
        is("the first and the last value there can be", first.wouldCut(0, 29, 1), 2);
        is("of (2,1)", x.wouldCut(0, 2, 1), 1);
        is("none", x.wouldCut(1, 2, 1), 0);
        is("which is refused", x.cut(0, 2), -5);
        is("and is not", x.cut(0, 0), 10);

        says(29, "NONE: others; no such ROW.");
        each("what", these(-1, 3, MIN, MAX), w -> x.wouldCut(0, 2, w), -1);
        for (int what = 0; what < 3; what++) {
            int asked = what;
            each("table", these(-1, 3, MIN, MAX), t -> x.wouldCut(t, 2, asked), -1);
            each("key", these(0, 1, 3, -1, 30, MIN, MAX), k -> x.wouldCut(0, k, asked), -1);
        }
    }

    private static void wouldCutTells() {
        says(29, "what cut() would tell (2;");
        for (int i = 0; i < 9; i++) {
            LateRules x = rowsThatFollow();
            int table = i < 3 ? 0 : i < 7 ? 1 : 2;
            int key = i < 3 ? i : i < 7 ? i - 3 : i - 7;
            int rows = x.count(1);
            String before = Picture.withVerdict(x);
            x.wouldCut(table, key, 1);
            int go = x.wouldCut(table, key, 0);
            int would = x.wouldCut(table, key, 2);
            is("all stays", Picture.withVerdict(x), before);
            is("cut(" + table + ", " + key + ")", would, x.cut(table, key));
            is("rows left", x.count(1), would == -5 ? rows : rows - go);
        }
        is("refused", rowsThatFollow().wouldCut(0, 2, 2), -5);
        is("not refused", rowsThatFollow().wouldCut(0, 0, 2), 10);

        says(29, "outside of a TRANSACTION -5, too, if its COMMIT would go back).");
        LateRules y = rowsThatFollow();
        y.later(3, true);
        is("outside", y.wouldCut(0, 2, 2), -5);
        y.begin();
        int would = y.wouldCut(0, 2, 2);
        is("within", would, 6);
        is("cut tells the same", y.cut(0, 2), 6);
    }

    private static void leans() {
        says(30, "How many ROWS refer (by any RULE refers) to a ROW, each once, itself, too, if it does (what 0),");
        LateRules x = Due.with("refers 1 0 0 cascade", "refers 1 1 0 late", "refers 0 0 0 clear", "count 2 0 0 0 9", "tree 2 1", "refers 2 2 1");
        x.put(0, 0, 0, 0, 0);
        x.put(0, 1, NULL, 0, 0);
        x.put(1, 0, 0, 0, 0);
        x.put(1, 1, NULL, 1, 0);
        x.put(2, 5, 0, 0, 0);
        x.put(2, 6, 1, 1, 1);
        is("itself, (1,0) once", x.leans(0, 0, 0), 2);
        is("(1,1)", x.leans(0, 1, 0), 1);
        is("(2,5)", x.leans(1, 0, 0), 1);
        is("none", x.leans(2, 5, 0), 0);

        says(30, "how many, straight or by others that do, itself aside (1).");
        is("(1,0), (2,5)", x.leans(0, 0, 1), 2);
        is("(1,1), (2,6)", x.leans(0, 1, 1), 2);
        is("(2,5)", x.leans(1, 0, 1), 1);
        is("none", x.leans(2, 6, 1), 0);
        x.set(0, 0, 0, 1);
        x.set(0, 1, 0, 0);
        is("a ring: (0,1), (1,0), (1,1), (2,5), (2,6)", x.leans(0, 0, 1), 5);
        is("a ring: (0,0), (1,0), (1,1), (2,5), (2,6)", x.leans(0, 1, 1), 5);
        LateRules chain = Due.with("refers 0 0 0");
        chain.put(0, 0, NULL, 0, 0);
        for (int key = 1; key < 30; key++) {
            chain.put(0, key, key - 1, 0, 0);
        }
        is("the longest chain", chain.leans(0, 0, 1), 29);
        is("straight", chain.leans(0, 0, 0), 1);

        LateRules all = Due.with("refers 0 0 0", "refers 1 1 0", "refers 2 2 0");
        for (int i = 0; i < 90; i++) {
            all.put(i / 30, i % 30, 0, 0, 0);
        }
        is("as many as there can be, itself, too", all.leans(0, 0, 0), 90);
        is("as many as there can be, itself aside", all.leans(0, 0, 1), 89);

        says(30, "NONE: no such ROW, others.");
        each("table", these(-1, 3, MIN, MAX), t -> x.leans(t, 0, 0), -1);
        each("key", these(2, -1, 30, MIN, MAX), k -> x.leans(0, k, 0), -1);
        each("key", these(2, -1, 30, MIN, MAX), k -> x.leans(0, k, 1), -1);
        each("what", these(-1, 2, MIN, MAX), w -> x.leans(0, 0, w), -1);
    }

    private static void least() {
        says(31, "The least VALUE (-99 on, another one than it is) that a VALUE of a ROW could become");
        LateRules x = new LateRules();
        x.put(0, 0, -98, -99, NULL);
        is("the least", x.least(0, 0, 0), -99);
        is("another one than it is", x.least(0, 0, 1), -98);
        is("of null", x.least(0, 0, 2), -99);
        String before = Picture.withVerdict(x);
        x.least(0, 0, 0);
        is("all stays", Picture.withVerdict(x), before);
        x.wouldCut(0, 0, 0);
        is("the least", x.least(0, 0, 0), -99);

        says(31, "Integer.MIN_VALUE: none, no such ROW, COLUMN.");
        LateRules none = Due.with("range 0 0 5 5", "range 0 1 98 99");
        none.put(0, 0, 5, 98, 0);
        is("none", none.least(0, 0, 0), MIN);
        is("the most", none.least(0, 0, 1), 99);
        none.set(0, 0, 1, 99);
        is("the other", none.least(0, 0, 1), 98);
        each("table", these(-1, 1, 3, MIN, MAX), t -> none.least(t, 0, 0), MIN);
        each("key", these(-1, 1, 30, MIN, MAX), k -> none.least(0, k, 0), MIN);
        each("column", these(-1, 3, MIN, MAX), c -> none.least(0, 0, c), MIN);
    }

    private static void leastOfRules() {
        says(31, "so that no QUESTION of any RULE which that TOUCHES would FAIL.");
        LateRules x = Due.with("unique 0 0", "range 0 0 -99 -97 late");
        x.put(0, 0, -97, 0, 0);
        x.put(0, 1, -99, 0, 0);
        is("late or not", x.least(0, 0, 0), -98);
        x.begin();
        is("within, too", x.least(0, 0, 0), -98);
        x.put(0, 2, -98, 0, 0);
        is("none", x.least(0, 0, 0), MIN);
        LateRules refers = Due.with("refers 0 0 1", "count 0 0 1 0 1", "tree 0 0");
        refers.put(1, 3, 0, 0, 0);
        refers.put(1, 4, 0, 0, 0);
        refers.put(1, 5, 0, 0, 0);
        refers.put(0, 3, NULL, 0, 0);
        refers.put(0, 4, NULL, 0, 0);
        is("refers 3, tree 3 fails, 4", refers.least(0, 3, 0), 4);
        is("refers 3", refers.least(0, 4, 0), 3);
        refers.set(0, 3, 0, 4);
        is("3 would be a ring, 4 is taken", refers.least(0, 4, 0), 5);
        LateRules sum = Due.with("sum 0 0 1 -5 5 late");
        sum.put(0, 0, 7, 5, 0);
        sum.put(0, 1, 8, -5, 0);
        is("a group", sum.least(0, 1, 1), -4);
        sum.put(0, 2, 7, -1, 0);
        is("a group of two", sum.least(0, 0, 1), -4);
        LateRules left = Due.with("sum 0 0 1 1 9");
        left.put(0, 0, 7, 9, 0);
        left.put(0, 1, 7, -2, 0);
        is("a group that is left would fail", left.least(0, 0, 0), MIN);
        LateRules untouched = Due.with("range 0 0 0 5 late");
        untouched.begin();
        untouched.put(0, 0, 9, 9, 9);
        is("one that fails and is not touched", untouched.least(0, 0, 1), -99);
    }

    private static void depth() {
        says(32, "How many STEPS a ROW is below its top by a RULE tree (0: its VALUE is NULL, or no KEY there).");
        LateRules x = Due.with("tree 1 2 late", "unique 1 1", "tree 0 0");
        for (int key = 0; key < 30; key++) {
            x.put(1, key, 0, key, key == 0 ? NULL : key - 1);
        }
        for (int key = 0; key < 30; key++) {
            is("depth of " + key, x.depth(0, key), key);
        }
        x.wouldCut(1, 5, 0);
        is("with what was cut on paper", x.depth(0, 6), 6);
        is("with what was cut on paper", x.depth(0, 5), 5);
        x.wouldSet(1, 5, 2, 6);
        is("with a ring on paper", x.depth(0, 6), 6);
        is("with a ring on paper", x.question(0, 5, 1), 0);
        each("no key there", these(-1, -99, 30, 99), v -> {
            x.set(1, 0, 2, v);
            return x.depth(0, 0) + x.depth(0, 29);
        }, 29);
        x.cut(1, 9);
        is("no row there", x.depth(0, 10), 0);

        says(32, "NONE: no such RULE, ROW, another kind;");
        each("rule", these(3, 11, 12, -1, MIN, MAX), r -> x.depth(r, 1), -1);
        each("row", these(9, 30, -1, MIN, MAX), k -> x.depth(0, k), -1);
        is("a row of another table", x.depth(2, 1), -1);
        is("another kind", x.depth(1, 1), -1);

        says(32, "-2: it is on a ring, or comes to one.");
        x.begin();
        x.set(1, 0, 2, 8);
        each("on the ring", these(0, 4, 8), k -> x.depth(0, k), -2);
        is("beside it", x.depth(0, 29), 19);
        x.set(1, 10, 2, 0);
        each("comes to it", these(10, 29), k -> x.depth(0, k), -2);
        x.set(1, 11, 2, 11);
        is("a ring of one", x.depth(0, 11), -2);
        x.set(1, 0, 2, NULL);
        is("no ring", x.depth(0, 10), 1);
        x.put(1, 9, 0, 9, 8);
        x.set(1, 10, 2, 9);
        x.set(1, 11, 2, 10);
        x.set(1, 0, 2, 29);
        each("the longest ring", these(0, 13, 29), k -> x.depth(0, k), -2);
    }

    private static void since() {
        says(33, "Since BEGIN, each time counted: QUESTIONS that came into THE QUEUE by ACTS and by later() (what 0),");
        LateRules x = Due.with("unique 0 0 late", "unique 0 1");
        x.put(0, 0, 1, 1, 1);
        x.begin();
        is("at first", Due.since(x), "0 0 0 0 0 0 0");
        x.put(0, 1, 2, 2, 2);
        is("unique 2 came", x.since(0), 1);
        x.cut(0, 1);
        x.put(0, 1, 2, 2, 2);
        is("each time", x.since(0), 2);
        x.put(0, 2, 2, 3, 2);
        is("it is there already", x.since(0), 2);
        is("by later()", x.later(1, true), 2);
        is("by later()", x.since(0), 4);

        LateRules behind = Due.with("range 0 1 -9 9", "unique 0 0 late", "range 0 2 -9 9", "unique 0 2 late");
        behind.begin();
        behind.put(0, 0, 1, 2, 3);
        is("late ones behind others", behind.since(0), 2);
        behind.cut(0, 0);
        is("late ones behind others", behind.since(1), 2);

        says(33, "that left it by ACTS, as their STATE was as at BEGIN again (1),");
        is("unique 2 left once", x.since(1), 1);
        is("by later() they are not counted", x.later(1, false), 2);
        is("once", x.since(1), 1);
        x.set(0, 2, 0, 4);
        is("2 stays, 4 came", Due.since(x), "5 1 0 0 5 0 0");
        x.set(0, 2, 0, NULL);
        is("4 left", x.since(1), 2);
        x.set(0, 0, 0, NULL);
        x.set(0, 0, 0, 1);
        is("1 came and left", Due.since(x), "6 3 0 0 8 0 0");

        says(33, "that left it by back() (2), that came by it (3),");
        x.mark();
        x.set(0, 1, 0, 5);
        x.set(0, 0, 0, 6);
        is("2 left; 5, 1, 6 came", Due.since(x), "9 4 0 0 10 0 1");
        x.back(0);
        is("by back() 5, 1, 6 left, 2 came", Due.since(x), "9 4 3 1 10 0 1");
        x.back(0);
        is("and none more", Due.since(x), "9 4 3 1 10 0 1");

        says(33, "ACTS that were done (4), ACTS that were REFUSED, for whatever (5), MARKS there are (6).");
        Call[] refused = {y -> y.put(0, 30, 1, 1, 1), y -> y.put(0, 0, 1, 1, 1), y -> y.set(0, 0, 3, 1), y -> y.set(0, 9, 1, 1),
            y -> y.set(0, 0, 0, 1), y -> y.cut(3, 0), y -> y.cut(0, 9), y -> y.rekey(0, 0, 30), y -> y.rekey(0, 9, 8),
            y -> y.rekey(0, 0, 0), y -> y.put(0, 9, 9, 1, 1), y -> y.set(0, 0, 1, 2)};
        for (int i = 0; i < refused.length; i++) {
            is("refused", refused[i].on(x) < 0, true);
            is("refused so far", x.since(5), i + 1);
        }
        x.drop(9);
        x.later(9, true);
        x.back(9);
        x.begin();
        x.wouldSet(0, 0, 1, 2);
        is("acts alone", x.since(5), 12);
        is("done", x.since(4), 10);
        x.mark();
        is("marks", x.since(6), 2);
        x.back(0);
        is("marks", x.since(6), 1);
        x.abort();
        x.put(0, 30, 1, 1, 1);
        x.begin();
        is("anew", Due.since(x), "0 0 0 0 0 0 0");

        says(33, "NONE: no TRANSACTION, others.");
        each("what", these(-1, 7, MIN, MAX), w -> x.since(w), -1);
        x.commit();
        each("what", these(-1, 0, 1, 2, 3, 4, 5, 6, 7), w -> x.since(w), -1);
    }

    private static void count() {
        says(34, "0 RULES, 1 ROWS, 2 QUESTIONS in THE QUEUE, 3 1 within a TRANSACTION, else 0,");
        LateRules x = Due.with("unique 0 0 late", "range 0 1 0 5", "range 0 2 0 5 late");
        is("rules", x.count(0), 3);
        is("rows", x.count(1), 0);
        x.put(0, 0, 1, 1, 1);
        x.put(2, 29, 1, 1, 1);
        is("rows", x.count(1), 2);
        is("the queue", x.count(2), 0);
        is("outside", x.count(3), 0);
        x.begin();
        is("within", x.count(3), 1);
        x.put(0, 1, 2, 2, 2);
        is("the queue", x.count(2), 2);

        says(34, "4 QUESTIONS asked so far (behind ACTS, by later(), by COMMIT; each up to the one that FAILS, that, too; on paper none),");
        is("three by the first act, one by this", x.count(4), 4);
        x.later(2, false);
        is("one by later()", x.count(4), 5);
        x.put(0, 2, 2, 6, 6);
        is("up to the one that fails", x.count(4), 6);
        x.put(0, 2, 2, 2, 6);
        is("both", x.count(4), 8);
        x.put(0, 2, 2, 2, 2);
        is("both", x.count(4), 10);
        x.later(0, false);
        is("the one that fails", x.count(4), 11);
        x.wouldSet(0, 0, 1, 2);
        x.wouldCut(0, 0, 2);
        x.least(0, 0, 1);
        x.all(0);
        x.first(0);
        x.question(0, 1, 1);
        is("on paper none", x.count(4), 11);
        x.commit();
        is("the one that fails", x.count(4), 12);

        says(34, "5 COMMITS that were done (those of an ACT by itself, too), 6 those that went back (likewise), 7 ABORTS by abort(),");
        is("two by themselves", x.count(5), 2);
        is("one went back", x.count(6), 1);
        x.begin();
        x.commit();
        is("one more", x.count(5), 3);
        is("by itself", x.put(0, 3, 1, 1, 1), -5);
        is("one more went back", x.count(6), 2);
        is("no more done", x.count(5), 3);
        is("refused ahead of it", x.put(0, 3, 9, 9, 9), -5);
        is("not one that went back", x.count(6), 2);
        is("no aborts", x.count(7), 0);
        x.begin();
        x.abort();
        x.abort();
        is("one abort", x.count(7), 1);

        says(34, "8 signs of THE TEXT, 9 late RULES.");
        is("none", x.count(8), 0);
        x.sign(0);
        x.sign(0);
        x.end(7);
        is("signs", x.count(8), 7);
        x.rule();
        is("none", x.count(8), 0);
        is("late", x.count(9), 1);
        x.later(1, true);
        x.later(2, true);
        is("late", x.count(9), 3);
        x.drop(1);
        is("late", x.count(9), 2);

        says(34, "NONE: others.");
        each("what", these(-1, 10, MIN, MAX), w -> x.count(w), -1);
    }
}
