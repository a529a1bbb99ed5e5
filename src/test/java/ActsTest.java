/** Promises 7 to 10: put, set, cut, rekey, and what is asked behind an act. */
final class ActsTest {
    private static final int NULL = Due.NULL;
    private static final int NOTHING = Due.NOTHING;

    public static void main(String[] args) {
        putRefused();
        putTouches();
        setRefused();
        setTouches();
        statesThatStay();
        eachKindAtOnce();
        byRankThenRuleThenSubject();
        byItself();
        byItselfLate();
        cutRefused();
        cutFollows();
        cutRuleByRule();
        cutOneByOne();
        cutDeep();
        nothingStaysOnPaper();
        rekeyRefused();
        rekeyFollows();
        rekeyRuleByRule();
        Due.finish("ActsTest");
    }

    private static String row(LateRules x, int table, int key) {
        return x.value(table, key, 0) + " " + x.value(table, key, 1) + " " + x.value(table, key, 2);
    }

    private static void putRefused() {
        LateRules x = new LateRules();
        Due.is("table -1", x.put(-1, 0, 0, 0, 0), -1);
        Due.is("table 3", x.put(3, 0, 0, 0, 0), -1);
        Due.is("key -1", x.put(0, -1, 0, 0, 0), -1);
        Due.is("key 30", x.put(0, 30, 0, 0, 0), -1);
        Due.is("a 100", x.put(0, 0, 100, 0, 0), -1);
        Due.is("b -100", x.put(0, 0, 0, -100, 0), -1);
        Due.is("c -999", x.put(0, 0, 0, 0, -999), -1);
        Due.is("c -1001", x.put(0, 0, 0, 0, -1001), -1);
        Due.is("all extreme", x.put(Integer.MIN_VALUE, Integer.MAX_VALUE, Integer.MIN_VALUE, 0, 0), -1);
        Due.is("no rows", x.count(1), 0);
        Due.is("the edges", x.put(2, 29, -99, 99, NULL), 0);
        Due.is("the row", row(x, 2, 29), "-99 99 -1000");
        Due.is("there is such a row", x.put(2, 29, 1, 1, 1), -4);
        Due.is("a wrong value goes first", x.put(2, 29, 1, 1, 100), -1);
        Due.is("the row stays", row(x, 2, 29), "-99 99 -1000");
        Due.is("another table", x.put(0, 0, 0, 0, 0), 0);
        Due.is("rows", x.count(1), 2);
    }

    private static void putTouches() {
        LateRules x = Due.with("unique 0 0", "refers 0 1 1 late", "range 0 2 -5 5", "sum 0 0 2 -9 9 late",
            "count 0 1 1 0 9 late", "tree 0 1");
        x.begin();
        Due.is("all six", x.put(0, 4, 7, 3, 2), 6);
        Due.is("nulls: range and tree alone", x.put(0, 5, NULL, NULL, NULL), 2);
        Due.is("a value that is no key: no count", x.put(0, 6, 8, 30, 2), 5);
        Due.is("a key that is referred to: refers and count", x.put(1, 3, 0, 0, 0), 2);
        Due.is("a table without rules", x.put(2, 3, 0, 0, 0), 0);
        Due.is("the queue", Due.queue(x), "1:3:0:3:0 1:30:0:2:1 3:7:100000:2:0 3:8:100000:2:0 4:3:0:3:0");
    }

    private static void setRefused() {
        LateRules x = new LateRules();
        x.put(1, 4, 1, 2, NULL);
        Due.is("table", x.set(3, 4, 0, 0), -1);
        Due.is("table", x.set(-1, 4, 0, 0), -1);
        Due.is("key", x.set(1, 30, 0, 0), -1);
        Due.is("key", x.set(1, -1, 0, 0), -1);
        Due.is("column", x.set(1, 4, 3, 0), -1);
        Due.is("column", x.set(1, 4, -1, 0), -1);
        Due.is("value", x.set(1, 4, 0, 100), -1);
        Due.is("value", x.set(1, 4, 0, -100), -1);
        Due.is("a number that can't be goes first", x.set(1, 5, 0, 100), -1);
        Due.is("no such row", x.set(1, 5, 0, 0), -2);
        Due.is("no such row", x.set(0, 4, 0, 0), -2);
        Due.is("it is so", x.set(1, 4, 0, 1), -4);
        Due.is("it is null already", x.set(1, 4, 2, NULL), -4);
        Due.is("set", x.set(1, 4, 2, -99), 0);
        Due.is("set", x.set(1, 4, 0, NULL), 0);
        Due.is("the row", row(x, 1, 4), "-1000 2 -99");
    }

    private static void setTouches() {
        LateRules x = Due.with("unique 0 0", "sum 0 0 1 -99 99", "range 0 0 -9 9", "refers 1 0 0 clear", "tree 0 0");
        x.put(0, 3, 4, 7, 0);
        x.put(0, 4, NULL, 5, 0);
        Due.is("old and new, of unique and sum; range, tree", x.set(0, 3, 0, 5), 6);
        Due.is("the sum alone", x.set(0, 3, 1, 8), 1);
        Due.is("a column without rules", x.set(0, 3, 2, 8), 0);
        Due.is("of no group", x.set(0, 4, 1, 6), 0);
        Due.is("to null", x.set(0, 3, 0, NULL), 4);
        Due.is("against range", x.set(0, 3, 0, 10), -5);
        Due.is("the verdict", Due.words(x), "rule 2 range 3");
        Due.is("all is as ahead of it", row(x, 0, 3), "-1000 8 8");
    }

    /** A question whose state comes out the same is not touched, whatever happened to its rows. */
    private static void statesThatStay() {
        LateRules x = Due.with("sum 0 0 1 -99 99", "unique 1 0 late");
        x.put(0, 0, 5, 3, 0);
        x.put(0, 1, 6, 0, 0);
        x.put(0, 2, 5, 4, 0);
        Due.is("a row with 0 leaves one group for another that has rows", x.set(0, 1, 0, 5), 1);
        Due.is("and goes to none", x.set(0, 1, 0, NULL), 0);
        Due.is("null counts as 0", x.set(0, 1, 1, NULL), 0);
        Due.is("and comes into a group", x.set(0, 1, 0, 5), 0);
        LateRules y = Due.with("sum 0 1 1 -99 99");
        y.put(0, 0, 0, 5, 0);
        Due.is("a sum over its own column", y.put(0, 1, 0, 5, 0), 1);
        Due.is("is twice the value", y.question(0, 5, 0), 10);
        Due.is("old and new", y.set(0, 1, 1, 6), 2);
        Due.is("of one", y.question(0, 6, 0), 6);
    }

    private static void refused(String rule, LateRules x, int got, String words) {
        Due.is(rule, got, -5);
        Due.is(rule, Due.words(x), words);
    }

    private static void eachKindAtOnce() {
        LateRules u = Due.with("unique 0 1");
        u.put(0, 0, 0, -7, 0);
        refused("unique", u, u.put(0, 1, 0, -7, 0), "rule 0 unique -7");
        Due.is("null is unlike null", u.put(0, 1, 0, NULL, 0), 0);
        Due.is("null is unlike null", u.put(0, 2, 0, NULL, 0), 0);
        LateRules r = Due.with("refers 0 0 1");
        refused("refers", r, r.put(0, 0, 4, 0, 0), "rule 0 refers 4");
        r.put(1, 4, 0, 0, 0);
        Due.is("refers", r.put(0, 0, 4, 0, 0), 1);
        refused("refers", r, r.cut(1, 4), "rule 0 refers 4");
        refused("refers", r, r.set(0, 0, 0, 99), "rule 0 refers 99");
        refused("refers", r, r.set(0, 0, 0, -1), "rule 0 refers -1");
        LateRules g = Due.with("range 0 0 -2 2");
        refused("range", g, g.put(0, 29, 3, 0, 0), "rule 0 range 29");
        refused("range", g, g.put(0, 29, -3, 0, 0), "rule 0 range 29");
        Due.is("range", g.put(0, 28, 2, 0, 0), 1);
        Due.is("range", g.put(0, 27, -2, 0, 0), 1);
        Due.is("range", g.put(0, 26, NULL, 0, 0), 1);
        LateRules s = Due.with("sum 0 0 1 -4 4");
        s.put(0, 0, 9, 4, 0);
        refused("sum", s, s.put(0, 1, 9, 1, 0), "rule 0 sum 9");
        Due.is("sum", s.put(0, 1, 9, -8, 0), 1);
        refused("sum", s, s.cut(0, 0), "rule 0 sum 9");
        LateRules c = Due.with("count 0 0 1 1 2");
        refused("count", c, c.put(1, 6, 0, 0, 0), "rule 0 count 6");
        c.put(0, 0, 6, 0, 0);
        Due.is("count", c.put(1, 6, 0, 0, 0), 1);
        c.put(0, 1, 6, 0, 0);
        refused("count", c, c.put(0, 2, 6, 0, 0), "rule 0 count 6");
        LateRules t = Due.with("tree 0 0");
        refused("tree", t, t.put(0, 5, 5, 0, 0), "rule 0 tree 5");
        t.put(0, 5, 6, 0, 0);
        t.put(0, 6, 7, 0, 0);
        refused("tree", t, t.put(0, 7, 5, 0, 0), "rule 0 tree 7");
        Due.is("no key there", t.put(0, 7, 30, 0, 0), 1);
    }

    private static void byRankThenRuleThenSubject() {
        LateRules x = Due.with("range 0 0 0 9", "range 0 0 0 9 rank 49", "unique 0 1 rank 49", "tree 0 2 rank 3");
        x.put(0, 0, 1, 1, NULL);
        Due.is("two fail", x.put(0, 1, 10, 1, NULL), -5);
        Due.is("the lower rank, then the lower number", Due.words(x), "rule 1 range 1");
        Due.is("three fail", x.put(0, 1, 10, 1, 1), -5);
        Due.is("the lowest rank", Due.words(x), "rule 3 tree 1");
        x.drop(1);
        x.drop(3);
        Due.is("two fail", x.put(0, 1, 10, 1, 1), -5);
        Due.is("by rank", Due.words(x), "rule 2 unique 1");
        LateRules y = Due.with("refers 0 0 1 cascade", "range 0 0 0 5", "unique 1 1");
        y.put(1, 2, 0, 0, 0);
        y.put(0, 7, 2, 0, 0);
        y.put(0, 3, 2, 0, 0);
        int asked = y.count(4);
        Due.is("two rows against range", y.rekey(1, 2, 8), -5);
        Due.is("the least key first", Due.words(y), "rule 1 range 3");
        Due.is("asked up to it: refers 2, refers 8, range 3", y.count(4), asked + 3);
    }

    private static void byItself() {
        LateRules x = Due.with("unique 0 0", "range 0 1 0 5 late");
        Due.is("put", x.put(0, 0, 1, 1, 1), 2);
        Due.is("asked", x.count(4), 2);
        Due.is("committed", x.count(5), 1);
        Due.is("asked by the commit", Due.asked(x), "1:0:0");
        Due.is("refused at once", x.put(0, 1, 1, 9, 1), -5);
        Due.is("asked one more", x.count(4), 3);
        Due.is("no commit", x.count(5), 1);
        Due.is("none that went back", x.count(6), 0);
        Due.is("asked by the commit stays", Due.asked(x), "1:0:0");
        Due.is("no transaction", x.count(3), 0);
        Due.is("no queue", x.count(2), 0);
        Due.is("refused otherwise", x.put(0, 0, 2, 2, 2), -4);
        Due.is("no commit", x.count(5), 1);
        Due.is("no verdict", x.verdict(0), NOTHING);
        Due.is("nothing touched is a commit too", x.put(2, 0, 0, 0, 0), 0);
        Due.is("committed", x.count(5), 2);
        Due.is("it asked nothing", Due.asked(x), "");
    }

    private static void byItselfLate() {
        LateRules x = Due.with("range 0 1 0 5 late", "unique 0 0 late rank 1", "sum 0 0 1 0 5");
        x.put(0, 0, 1, 3, 1);
        Due.is("asked", x.count(4), 3);
        Due.is("refused by its commit", x.put(0, 1, 2, -1, 1), -5);
        Due.is("the prompt one first", Due.words(x), "rule 2 sum 2");
        Due.is("asked", x.count(4), 4);
        Due.is("none that went back", x.count(6), 0);
        Due.is("refused by its commit", x.put(0, 1, 1, 1, 1), -5);
        Due.is("the late one", Due.words(x), "rule 1 unique 1");
        Due.is("went back", x.count(6), 1);
        Due.is("what it asked", Due.asked(x), "1:1:1");
        Due.is("asked", x.count(4), 6);
        Due.is("no such row", x.rows(0, 1), 1);
        Due.is("no transaction", x.count(3), 0);
        Due.is("no queue", x.count(2), 0);
    }

    private static void cutRefused() {
        LateRules x = new LateRules();
        x.put(0, 0, 0, 0, 0);
        Due.is("table", x.cut(3, 0), -1);
        Due.is("table", x.cut(-1, 0), -1);
        Due.is("key", x.cut(0, 30), -1);
        Due.is("key", x.cut(0, -1), -1);
        Due.is("no such row", x.cut(0, 1), -2);
        Due.is("no such row", x.cut(1, 0), -2);
        Due.is("cut", x.cut(0, 0), 0);
        Due.is("cut again", x.cut(0, 0), -2);
    }

    private static void cutFollows() {
        LateRules x = Due.with("refers 1 0 0 cascade", "refers 2 1 1 clear", "refers 2 0 0");
        x.put(0, 4, 0, 0, 0);
        x.put(0, 5, 0, 0, 0);
        x.put(1, 1, 4, 0, 0);
        x.put(1, 2, 5, 0, 0);
        x.put(1, 3, 4, 0, 0);
        x.put(2, 8, 5, 1, 0);
        x.put(2, 9, NULL, 3, 0);
        x.put(2, 10, NULL, 2, 0);
        // refers 0: 4; refers 1: 1 and 3; refers 2: 4
        Due.is("cut", x.cut(0, 4), 4);
        Due.is("table 0", x.rows(0, 1), 1 << 5);
        Due.is("table 1", x.rows(1, 1), 1 << 2);
        Due.is("cleared", row(x, 2, 8), "5 -1000 0");
        Due.is("cleared", row(x, 2, 9), "-1000 -1000 0");
        Due.is("stays", row(x, 2, 10), "-1000 2 0");
        Due.is("refers without either refuses", x.cut(0, 5), -5);
        Due.is("all of it is as it was", x.rows(1, 1), 1 << 2);
        Due.is("also what would be cleared", row(x, 2, 10), "-1000 2 0");
        Due.is("the verdict", Due.words(x), "rule 2 refers 5");
    }

    /** Rules go by number, and each sees what those ahead of it have left. */
    private static void cutRuleByRule() {
        LateRules x = Due.with("refers 1 0 0 clear", "refers 1 0 0 cascade");
        x.put(0, 4, 0, 0, 0);
        x.put(1, 1, 4, 0, 0);
        x.cut(0, 4);
        Due.is("cleared first, so nothing is left to cut", row(x, 1, 1), "-1000 0 0");
        LateRules y = Due.with("refers 1 0 0 cascade rank 60", "refers 1 1 0 clear rank 1");
        y.put(0, 4, 0, 0, 0);
        y.put(1, 1, 4, 4, 0);
        y.put(1, 2, NULL, 4, 0);
        y.cut(0, 4);
        Due.is("cut first", y.rows(1, 1), 1 << 2);
        Due.is("then cleared", row(y, 1, 2), "-1000 -1000 0");
        LateRules z = Due.with("refers 0 0 0 cascade", "refers 0 1 0 clear late");
        z.begin();
        z.put(0, 1, NULL, 3, 0);
        z.put(0, 2, 1, NULL, 0);
        z.put(0, 3, 2, 1, 0);
        z.put(0, 4, NULL, 2, 0);
        z.put(0, 5, NULL, 3, 0);
        z.put(0, 6, NULL, 9, 0);
        z.cut(0, 1);
        Due.is("a chain within one table", z.rows(0, 1), 1 << 4 | 1 << 5 | 1 << 6);
        Due.is("cleared", row(z, 0, 4), "-1000 -1000 0");
        Due.is("cleared", row(z, 0, 5), "-1000 -1000 0");
        Due.is("not referring to one that went", row(z, 0, 6), "-1000 9 0");
        LateRules w = Due.with("refers 0 0 0 cascade");
        w.put(0, 7, 7, 0, 0);
        Due.is("one that refers to itself", w.cut(0, 7), 1);
        Due.is("is gone", w.count(1), 0);
    }

    /** Each rule begins with the least key again, for each row that goes. */
    private static void cutOneByOne() {
        LateRules x = Due.with("refers 1 0 0 cascade", "refers 2 0 0 cascade", "refers 2 1 1 cascade", "refers 1 1 2 cascade");
        x.put(0, 4, 0, 0, 0);
        x.put(1, 7, 4, NULL, 0);
        x.put(1, 8, 4, NULL, 0);
        x.put(1, 9, 4, NULL, 0);
        x.put(2, 1, 4, NULL, 0);
        x.put(2, 2, 4, NULL, 0);
        x.put(2, 0, NULL, 9, 0);
        x.put(2, 3, NULL, 7, 0);
        x.put(1, 0, NULL, 3, 0);
        x.put(1, 1, NULL, 29, 0);
        Due.is("refused by what refers to nothing", x.rows(1, 0), 4);
        Due.is("would go", x.wouldCut(0, 4, 0), 9);
        x.cut(0, 4);
        Due.is("all go", x.count(1), 0);
    }

    /** What was tried or asked on paper, and not done, leaves nothing for the next act. */
    private static void nothingStaysOnPaper() {
        LateRules x = Due.with("refers 1 0 0 cascade", "range 0 0 0 50");
        for (int key = 0; key < 5; key++) {
            x.put(0, key, key, 0, 0);
            x.put(1, key, key, 0, 0);
        }
        x.wouldCut(0, 0, 0);
        Due.is("rekey", x.rekey(0, 1, 9), 4);
        Due.is("rows", x.count(1), 10);
        x.wouldCut(0, 0, 0);
        Due.is("cut", x.cut(0, 2), 2);
        Due.is("rows", x.count(1), 8);
        x.wouldCut(0, 0, 0);
        Due.is("set", x.set(0, 3, 0, 7), 1);
        Due.is("rows", x.count(1), 8);
        Due.is("refused", x.set(0, 3, 0, 51), -5);
        Due.is("put", x.put(0, 20, 1, 1, 1), 2);
        Due.is("rows", x.count(1), 9);
        Due.is("as it was", x.value(0, 3, 0), 7);
        x.least(0, 3, 1);
        Due.is("cut", x.cut(0, 20), 2);
        Due.is("as it was", x.value(0, 3, 1), 0);
    }

    private static void cutDeep() {
        LateRules x = Due.with("refers 0 0 1 cascade", "refers 1 0 2 cascade", "refers 2 0 0 cascade");
        x.drop(2);
        x.put(2, 0, NULL, 0, 0);
        x.put(1, 0, 0, 0, 0);
        x.put(0, 0, 0, 0, 0);
        for (int key = 1; key < 30; key++) {
            x.put(2, key, key - 1, 0, 0);
            x.put(1, key, key, 0, 0);
            x.put(0, key, key, 0, 0);
        }
        Due.is("refers 2 0 0", Due.rule(x, "refers 2 0 0 cascade"), 2);
        Due.is("rows", x.count(1), 90);
        Due.is("would cut", x.wouldCut(2, 0, 0), 90);
        Due.is("lean", x.leans(2, 0, 1), 89);
        Due.is("cut", x.cut(2, 0), 89 + 1);
        Due.is("rows", x.count(1), 0);
    }

    private static void rekeyRefused() {
        LateRules x = new LateRules();
        x.put(0, 3, 0, 0, 0);
        x.put(0, 4, 0, 0, 0);
        Due.is("table", x.rekey(3, 3, 5), -1);
        Due.is("key", x.rekey(0, 30, 5), -1);
        Due.is("key", x.rekey(0, -1, 5), -1);
        Due.is("to", x.rekey(0, 3, 30), -1);
        Due.is("to", x.rekey(0, 3, -1), -1);
        Due.is("no such row", x.rekey(0, 5, 6), -2);
        Due.is("no such row goes first", x.rekey(0, 5, 3), -2);
        Due.is("there is such a row", x.rekey(0, 3, 4), -4);
        Due.is("itself, too", x.rekey(0, 3, 3), -4);
        Due.is("rekey", x.rekey(0, 3, 29), 0);
        Due.is("keys", x.rows(0, 1), 1 << 4 | 1 << 29);
    }

    private static void rekeyFollows() {
        LateRules x = Due.with("refers 1 0 0 cascade", "refers 1 1 0 clear", "refers 1 2 0 late", "refers 0 0 0 cascade late",
            "range 0 1 -9 9", "tree 0 0 late");
        x.begin();
        x.put(0, 4, 4, 1, 2);
        x.put(0, 5, 4, 1, 2);
        x.put(1, 1, 4, 4, 4);
        x.put(1, 2, 4, 4, NULL);
        // 0: 4, 6; 1: 4, 6 (a row more is in table 0); 2: 4, 6; 3: 4, 6; range: 4, 6; tree: 4, 5, 6
        Due.is("rekey", x.rekey(0, 4, 6), 13);
        Due.is("itself, too", row(x, 0, 6), "6 1 2");
        Due.is("its own table", row(x, 0, 5), "6 1 2");
        Due.is("cascade, clear, neither", row(x, 1, 1), "6 -1000 4");
        Due.is("cascade, clear", row(x, 1, 2), "6 -1000 -1000");
        Due.is("the one that stays fails", x.first(0), 2);
        Due.is("by its value", x.first(1), 4);
        LateRules y = Due.with("refers 1 0 0");
        y.put(0, 4, 0, 0, 0);
        y.put(1, 1, 4, 0, 0);
        Due.is("refused", y.rekey(0, 4, 5), -5);
        Due.is("the verdict", Due.words(y), "rule 0 refers 4");
        Due.is("as it was", y.rows(0, 1), 1 << 4);
    }

    private static void rekeyRuleByRule() {
        LateRules x = Due.with("refers 1 0 0 cascade", "refers 1 0 0 clear");
        x.put(0, 4, 0, 0, 0);
        x.put(1, 1, 4, 0, 0);
        x.rekey(0, 4, 6);
        Due.is("it has the new key before the second rule looks", row(x, 1, 1), "6 0 0");
        LateRules y = Due.with("refers 1 0 0 clear rank 99", "refers 1 0 0 cascade rank 0");
        y.put(0, 4, 0, 0, 0);
        y.put(1, 1, 4, 0, 0);
        y.rekey(0, 4, 6);
        Due.is("by number, not by rank", row(y, 1, 1), "-1000 0 0");
        LateRules z = Due.with("refers 1 0 0 clear late");
        z.begin();
        z.put(0, 4, 0, 0, 0);
        z.put(1, 1, 6, 0, 0);
        z.rekey(0, 4, 6);
        Due.is("what had the new key ahead of it stays", row(z, 1, 1), "6 0 0");
    }
}
