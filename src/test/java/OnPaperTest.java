/** Promises 28 to 34: wouldSet, wouldCut, leans, least, depth, since, count. */
final class OnPaperTest {
    private static final int NULL = Due.NULL;
    private static final int NOTHING = Due.NOTHING;

    public static void main(String[] args) {
        wouldBeSet();
        wouldBeCut();
        whoLeans();
        leastValue();
        leastByEachKind();
        depths();
        sinceBegin();
        counts();
        Due.finish("OnPaperTest");
    }

    private static void wouldBeSet() {
        LateRules x = Due.with("range 0 0 0 5", "unique 0 1 late");
        x.put(0, 0, 1, 1, 1);
        x.put(0, 1, 1, 2, 1);
        x.put(0, 2, 9, 3, 1);
        String words = Due.words(x);
        Due.is("a verdict", words, "rule 0 range 2");
        int asked = x.count(4);
        Due.is("table", x.wouldSet(3, 0, 0, 0), -1);
        Due.is("key", x.wouldSet(0, 30, 0, 0), -1);
        Due.is("column", x.wouldSet(0, 0, 3, 0), -1);
        Due.is("value", x.wouldSet(0, 0, 0, 100), -1);
        Due.is("no row", x.wouldSet(0, 2, 0, 0), -2);
        Due.is("it is so", x.wouldSet(0, 0, 0, 1), -4);
        Due.is("range fails", x.wouldSet(0, 0, 0, 6), -5);
        Due.is("its commit would go back", x.wouldSet(0, 0, 1, 2), -5);
        Due.is("range touched", x.wouldSet(0, 0, 0, 5), 1);
        Due.is("unique touched twice", x.wouldSet(0, 0, 1, 7), 2);
        Due.is("nothing touched", x.wouldSet(0, 0, 2, 7), 0);
        x.begin();
        Due.is("within late ones wait", x.wouldSet(0, 0, 1, 2), 2);
        Due.is("at once", x.wouldSet(0, 0, 0, 6), -5);
        Due.is("the queue stays", x.count(2), 0);
        Due.is("since stays", Due.since(x), "0 0 0 0 0 0 0");
        x.abort();
        Due.is("the verdict stays", Due.words(x), words);
        Due.is("asked stays", x.count(4), asked);
        Due.is("commits stay", x.count(5) + x.count(6), 2);
        Due.is("rows stay", x.value(0, 0, 0) + x.value(0, 0, 1) + x.value(0, 0, 2), 3);
        Due.is("what was asked stays", Due.asked(x), "1:2:0");
    }

    private static void wouldBeCut() {
        LateRules x = Due.with("refers 1 0 0 cascade", "refers 1 1 0 clear", "refers 2 0 1 clear", "refers 2 1 1", "count 2 2 0 0 9");
        x.put(0, 4, 0, 0, 0);
        x.put(0, 5, 0, 0, 0);
        x.put(1, 0, 4, 4, 0);
        x.put(1, 1, NULL, 4, 0);
        x.put(1, 2, 4, 5, 0);
        x.put(2, 0, 0, NULL, 0);
        x.put(2, 1, 2, 2, 0);
        x.put(2, 2, 1, NULL, 0);
        Due.is("rows", x.wouldCut(0, 4, 0), 3);
        Due.is("values", x.wouldCut(0, 4, 1), 3);
        Due.is("refused", x.wouldCut(0, 4, 2), -5);
        Due.is("rows", x.wouldCut(0, 5, 0), 1);
        Due.is("values", x.wouldCut(0, 5, 1), 1);
        // refers 0: 5, refers 1: 5, count: 5
        Due.is("told", x.wouldCut(0, 5, 2), 3);
        Due.is("what", x.wouldCut(0, 5, 3), -1);
        Due.is("what", x.wouldCut(0, 5, -1), -1);
        Due.is("no such row", x.wouldCut(0, 6, 0), -1);
        Due.is("no such row", x.wouldCut(0, 6, 2), -1);
        Due.is("no such table", x.wouldCut(3, 5, 0), -1);
        Due.is("no such key", x.wouldCut(0, 30, 0), -1);
        Due.is("no such key", x.wouldCut(0, -1, 1), -1);
        Due.is("rows stay", x.count(1), 8);
        Due.is("values stay", x.value(1, 2, 1), 5);
        x.later(3, true);
        Due.is("its commit would go back", x.wouldCut(0, 4, 2), -5);
        x.begin();
        // 0: 4; 1: 4, 5; 2: 0, 2; 3: 0, 2; 4: 4
        Due.is("within it waits", x.wouldCut(0, 4, 2), 8);
        Due.is("cut tells the same", x.cut(0, 4), 8);
        LateRules y = Due.with("refers 0 0 0 clear");
        y.put(0, 1, NULL, 0, 0);
        y.put(0, 0, 1, 0, 0);
        y.put(0, 29, 1, 0, 0);
        Due.is("values of the first and the last key", y.wouldCut(0, 1, 1), 2);
        Due.is("rows went", x.count(1), 5);
    }

    private static void whoLeans() {
        LateRules x = Due.with("refers 1 0 0", "refers 1 1 0 clear", "refers 2 0 1 cascade late", "refers 0 0 0", "refers 0 1 2 late",
            "count 1 2 0 0 9", "sum 2 1 0 -99 99");
        x.put(0, 4, 4, NULL, 0);
        x.put(0, 5, 4, NULL, 0);
        x.put(1, 0, 4, 4, 0);
        x.put(1, 1, NULL, 5, 0);
        x.put(1, 2, NULL, NULL, 4);
        x.put(2, 9, 0, 4, 0);
        x.put(2, 8, 2, 4, 0);
        Due.is("itself, (0,5), (1,0)", x.leans(0, 4, 0), 3);
        Due.is("(0,5), (1,0), (1,1), (2,9)", x.leans(0, 4, 1), 4);
        Due.is("(1,1)", x.leans(0, 5, 0), 1);
        Due.is("(1,1)", x.leans(0, 5, 1), 1);
        Due.is("none", x.leans(2, 9, 0), 0);
        Due.is("none", x.leans(2, 9, 1), 0);
        x.set(0, 5, 1, 9);
        Due.is("(0,5)", x.leans(2, 9, 0), 1);
        Due.is("(0,5), (1,1)", x.leans(2, 9, 1), 2);
        x.set(0, 4, 1, 9);
        Due.is("a ring, itself aside", x.leans(2, 9, 1), 4);
        Due.is("a ring, itself aside", x.leans(0, 4, 1), 4);
        Due.is("no such row", x.leans(0, 6, 0), -1);
        Due.is("no such table", x.leans(3, 4, 0), -1);
        Due.is("no such key", x.leans(0, 30, 1), -1);
        Due.is("what", x.leans(0, 4, 2), -1);
        Due.is("what", x.leans(0, 4, -1), -1);
    }

    private static void leastValue() {
        LateRules x = new LateRules();
        x.put(0, 0, -99, NULL, 4);
        Due.is("another one than it is", x.least(0, 0, 0), -98);
        Due.is("the least", x.least(0, 0, 1), -99);
        Due.is("the least", x.least(0, 0, 2), -99);
        Due.is("no such column", x.least(0, 0, 3), NOTHING);
        Due.is("no such column", x.least(0, 0, -1), NOTHING);
        Due.is("no such row", x.least(0, 1, 0), NOTHING);
        Due.is("no such table", x.least(-1, 0, 0), NOTHING);
        Due.is("rows stay", x.value(0, 0, 0), -99);
        LateRules y = Due.with("range 0 0 98 99", "unique 0 0");
        y.put(0, 0, 98, 0, 0);
        Due.is("the most", y.least(0, 0, 0), 99);
        y.put(0, 1, 99, 0, 0);
        Due.is("none", y.least(0, 0, 0), NOTHING);
    }

    private static void leastByEachKind() {
        LateRules x = Due.with("range 0 0 7 20 late", "unique 0 0", "refers 1 0 0", "tree 0 1", "sum 0 2 0 0 40", "count 0 1 1 0 1");
        x.put(0, 0, 7, NULL, 5);
        x.put(0, 1, 8, 0, 5);
        x.put(0, 2, 10, NULL, NULL);
        Due.is("range and unique", x.least(0, 2, 0), 9);
        Due.is("range, unique, sum", x.least(0, 0, 0), 9);
        x.put(1, 4, 1, 0, 0);
        Due.is("refers: 0", x.least(1, 4, 0), 0);
        x.cut(0, 2);
        x.cut(0, 0);
        Due.is("none: 1 it is already", x.least(1, 4, 0), NOTHING);
        Due.is("tree: not itself, but what is no key", x.least(0, 1, 1), -99);
        LateRules y = Due.with("tree 0 0", "range 0 0 0 29");
        y.put(0, 0, 1, 0, 0);
        y.put(0, 1, NULL, 0, 0);
        Due.is("no ring", y.least(0, 1, 0), 2);
        LateRules z = Due.with("sum 0 0 1 -3 3");
        z.put(0, 0, 5, 2, 0);
        z.put(0, 1, 5, 1, 0);
        Due.is("the sum of a group", z.least(0, 0, 1), -4);
        Due.is("a group of its own", z.least(0, 0, 0), -99);
        LateRules w = Due.with("sum 0 0 1 3 3 late");
        w.put(0, 0, 5, 3, 0);
        Due.is("no other sum", w.least(0, 0, 1), NOTHING);
        Due.is("another group alone", w.least(0, 0, 0), -99);
        w.begin();
        w.put(0, 1, 6, 9, 0);
        w.put(0, 2, 6, -9, 0);
        Due.is("late ones count, too", w.least(0, 1, 1), 12);
        w.set(0, 2, 1, -6);
        Due.is("a fault that is not touched does not matter", w.least(0, 0, 2), -99);
    }

    private static void depths() {
        LateRules x = Due.with("tree 0 0 late", "range 0 0 -99 99", "tree 1 1");
        x.begin();
        x.put(0, 0, NULL, 0, 0);
        x.put(0, 1, 0, 0, 0);
        x.put(0, 2, 1, 0, 0);
        x.put(0, 3, 29, 0, 0);
        x.put(0, 4, 5, 0, 0);
        x.put(0, 5, 4, 0, 0);
        x.put(0, 6, 4, 0, 0);
        x.put(0, 7, 7, 0, 0);
        int[] due = {0, 1, 2, 0, -2, -2, -2, -2};
        for (int key = 0; key < due.length; key++) {
            Due.is("depth of " + key, x.depth(0, key), due[key]);
        }
        Due.is("no such row", x.depth(0, 8), -1);
        Due.is("no such key", x.depth(0, 30), -1);
        Due.is("no such key", x.depth(0, -1), -1);
        Due.is("another kind", x.depth(1, 0), -1);
        Due.is("another table", x.depth(2, 0), -1);
        Due.is("no such rule", x.depth(3, 0), -1);
        Due.is("no such rule", x.depth(-1, 0), -1);
        LateRules y = Due.with("tree 0 0");
        for (int key = 0; key < 30; key++) {
            y.put(0, key, key - 1, 0, 0);
        }
        Due.is("the deepest", y.depth(0, 29), 29);
        Due.is("-1 is no key", y.depth(0, 0), 0);
        y.later(0, true);
        y.begin();
        y.set(0, 0, 0, 29);
        Due.is("the longest ring", y.depth(0, 0), -2);
        Due.is("the longest ring", y.question(0, 13, 1), 1);
        Due.is("one of it has another state", y.count(2), 1);
        Due.is("asked alone", y.commit(), -5);
    }

    private static void sinceBegin() {
        LateRules x = Due.with("unique 0 0 late", "range 0 1 0 5");
        for (int what = -1; what < 8; what++) {
            Due.is("no transaction", x.since(what), -1);
        }
        x.begin();
        Due.is("at first", Due.since(x), "0 0 0 0 0 0 0");
        x.put(0, 0, 1, 1, 1);
        Due.is("one came", Due.since(x), "1 0 0 0 1 0 0");
        x.put(0, 0, 1, 1, 1);
        x.put(0, 99, 1, 1, 1);
        x.set(0, 7, 1, 1);
        x.set(0, 0, 1, 6);
        x.cut(1, 0);
        x.rekey(0, 0, 0);
        Due.is("refused for whatever", Due.since(x), "1 0 0 0 1 6 0");
        x.mark();
        x.set(0, 0, 0, 2);
        Due.is("one came, one left", Due.since(x), "2 1 0 0 2 6 1");
        x.back(0);
        Due.is("one left, one came by back", Due.since(x), "2 1 1 1 2 6 1");
        x.back(3);
        x.commit();
        Due.is("over", x.since(0), -1);
        x.begin();
        Due.is("anew", Due.since(x), "0 0 0 0 0 0 0");
        x.set(0, 0, 0, 5);
        x.set(0, 0, 0, 6);
        x.set(0, 0, 0, 1);
        Due.is("each time", Due.since(x), "3 3 0 0 3 0 0");
        x.later(0, false);
        x.set(0, 0, 0, 8);
        x.later(0, true);
        Due.is("by later, too", Due.since(x), "5 3 0 0 4 0 0");
        Due.is("what", x.since(7), -1);
        Due.is("what", x.since(-1), -1);
    }

    private static void counts() {
        LateRules x = Due.with("unique 0 0 late", "range 0 1 0 5", "range 0 2 0 5 late");
        x.put(0, 0, 1, 1, 1);
        x.put(1, 0, 1, 1, 1);
        x.put(0, 1, 1, 1, 1);
        x.begin();
        x.abort();
        x.begin();
        x.put(0, 2, 3, 3, 3);
        x.sign(0);
        int[] due = {3, 3, 2, 1, 1 + 2 + 1 + 1 + 1, 2, 1, 1, 4, 2};
        for (int what = 0; what < 10; what++) {
            Due.is("count(" + what + ")", x.count(what), due[what]);
        }
        Due.is("count(10)", x.count(10), -1);
        Due.is("count(-1)", x.count(-1), -1);
        Due.is("commit", x.commit(), 2);
        Due.is("asked", x.count(4), 8);
        Due.is("commits", x.count(5), 3);
        Due.is("none waits", x.count(2), 0);
        Due.is("over", x.count(3), 0);
    }
}
