/** Promises 11 to 15: begin, commit, abort, mark, back. */
final class TransactionsTest {
    private static final int NULL = Due.NULL;
    private static final int NOTHING = Due.NOTHING;

    public static void main(String[] args) {
        notTheTime();
        commitThatHolds();
        commitThatGoesBack();
        struckOff();
        aborted();
        marksAndBack();
        backMakesTheQueue();
        backRefused();
        verdictStaysOrGoes();
        Due.finish("TransactionsTest");
    }

    private static void notTheTime() {
        LateRules x = new LateRules();
        Due.is("commit", x.commit(), -3);
        Due.is("abort", x.abort(), -3);
        Due.is("mark", x.mark(), -3);
        Due.is("back", x.back(0), -3);
        Due.is("back to none that can be", x.back(-1), -3);
        x.put(0, 0, 0, 0, 0);
        x.put(2, 0, 0, 0, 0);
        Due.is("begin", x.begin(), 2);
        Due.is("begin again", x.begin(), -3);
        Due.is("within", x.count(3), 1);
        Due.is("commit", x.commit(), 0);
        Due.is("over", x.count(3), 0);
        Due.is("commit again", x.commit(), -3);
        Due.is("one by itself twice, and this", x.count(5), 3);
        Due.is("abort", x.abort(), -3);
        Due.is("aborts", x.count(7), 0);
    }

    private static void commitThatHolds() {
        LateRules x = Due.with("unique 0 0 late rank 60", "range 0 1 0 5 late", "tree 0 2");
        x.begin();
        x.put(0, 5, 9, 1, NULL);
        x.put(0, 3, 9, 2, NULL);
        Due.is("the queue", Due.queue(x), "1:3:-2000:2:0 1:5:-2000:1:0 0:9:0:2:1");
        x.set(0, 5, 0, -9);
        int asked = x.count(4);
        Due.is("commit", x.commit(), 4);
        Due.is("asked in order", Due.asked(x), "1:3:0 1:5:0 0:-9:0 0:9:0");
        Due.is("asked so far", x.count(4), asked + 4);
        Due.is("commits", x.count(5), 1);
        Due.is("it stays", x.rows(0, 1), 1 << 3 | 1 << 5);
        Due.is("the queue is empty", x.count(2), 0);
        Due.noQueue(x, 0, 0);
        x.begin();
        Due.is("and empty behind begin", x.count(2), 0);
        Due.is("commit of nothing", x.commit(), 0);
        Due.is("asked nothing", Due.asked(x), "");
    }

    private static void commitThatGoesBack() {
        LateRules x = Due.with("unique 0 0 late rank 60", "range 0 1 0 5 late", "unique 0 2 late rank 70");
        x.put(0, 1, 1, 1, 1);
        x.begin();
        x.put(0, 2, 1, 2, 2);
        x.put(0, 3, 0, 3, 3);
        x.set(0, 1, 1, 4);
        x.cut(0, 1);
        x.put(0, 4, 1, 0, 4);
        x.later(2, false);
        x.mark();
        int asked = x.count(4);
        // range 1, 2, 3, 4, then unique 0, then unique 1 fails
        Due.is("commit", x.commit(), -5);
        Due.is("asked", Due.asked(x), "1:1:0 1:2:0 1:3:0 1:4:0 0:0:0 0:1:1");
        Due.is("asked so far", x.count(4), asked + 6);
        Due.is("the verdict", Due.words(x), "rule 0 unique 1");
        Due.is("rows as at begin", x.rows(0, 1), 1 << 1);
        Due.is("values as at begin", x.value(0, 1, 1), 1);
        Due.is("went back", x.count(6), 1);
        Due.is("commits", x.count(5), 1);
        Due.is("over", x.count(3), 0);
        Due.is("empty", x.count(2), 0);
        Due.is("which rules are late stays", x.told(2, 6), 0);
        x.begin();
        Due.is("marks are gone", x.since(6), 0);
        Due.is("marks are gone", x.back(0), -2);
    }

    private static void struckOff() {
        LateRules x = Due.with("unique 0 0 late", "range 0 0 0 9 late");
        x.put(0, 1, 5, 0, 0);
        x.begin();
        x.set(0, 1, 0, 6);
        Due.is("three wait", Due.queue(x), "0:5:1:0:0 0:6:0:1:0 1:1:5:6:0");
        x.set(0, 1, 0, 7);
        Due.is("one struck off, one come", Due.queue(x), "0:5:1:0:0 0:7:0:1:0 1:1:5:7:0");
        x.set(0, 1, 0, 5);
        Due.is("as it was", Due.queue(x), "");
        Due.is("each time counted", Due.since(x), "4 4 0 0 3 0 0");
        x.cut(0, 1);
        x.put(0, 1, 5, 3, 3);
        Due.is("as it was, in what the rules look at", Due.queue(x), "");
        Due.is("each time counted", Due.since(x), "6 6 0 0 5 0 0");
        Due.is("nothing to ask", x.commit(), 0);
        Due.is("the row is another one", x.value(0, 1, 1), 3);
    }

    private static void aborted() {
        LateRules x = Due.with("unique 0 0 late", "range 0 0 0 9");
        x.put(0, 1, 5, 0, 0);
        x.begin();
        x.put(0, 2, 5, 0, 0);
        x.set(0, 1, 1, 8);
        x.mark();
        x.later(1, true);
        Due.is("abort", x.abort(), 2);
        Due.is("rows", x.rows(0, 1), 1 << 1);
        Due.is("values", x.value(0, 1, 1), 0);
        Due.is("aborts", x.count(7), 1);
        Due.is("over", x.count(3), 0);
        Due.is("empty", x.count(2), 0);
        Due.is("which rules are late stays", x.told(1, 6), 1);
        Due.is("what was asked stays", Due.asked(x), "0:5:0");
        Due.is("abort again", x.abort(), -3);
        x.begin();
        Due.is("marks are gone", x.fresh(0, 0), -1);
        Due.is("counted anew", Due.since(x), "0 0 0 0 0 0 0");
        Due.is("abort of nothing", x.abort(), 0);
    }

    private static void marksAndBack() {
        LateRules x = new LateRules();
        x.begin();
        for (int i = 0; i < 8; i++) {
            x.put(0, i, i, 0, 0);
            Due.is("mark", x.mark(), i);
        }
        Due.is("there are 8", x.mark(), -4);
        Due.is("marks", x.since(6), 8);
        Due.is("back(8)", x.back(8), -2);
        Due.is("back(-1)", x.back(-1), -2);
        Due.is("back(MAX)", x.back(Integer.MAX_VALUE), -2);
        Due.is("back(7)", x.back(7), 0);
        Due.is("it stays", x.since(6), 8);
        x.put(1, 0, 0, 0, 0);
        x.set(0, 3, 0, 9);
        Due.is("back(3)", x.back(3), 0);
        Due.is("rows", x.rows(0, 1), 15);
        Due.is("rows", x.rows(1, 1), 0);
        Due.is("values", x.value(0, 3, 0), 3);
        Due.is("marks behind it are gone", x.since(6), 4);
        Due.is("marks behind it are gone", x.back(4), -2);
        x.cut(0, 0);
        Due.is("a new one", x.mark(), 4);
        Due.is("back(0)", x.back(0), 0);
        Due.is("rows", x.rows(0, 1), 1);
        Due.is("back(0) again", x.back(0), 0);
        Due.is("acts done stay counted", Due.since(x), "0 0 0 0 11 0 1");
        Due.is("commit", x.commit(), 0);
        Due.is("rows", x.rows(0, 1), 1);
    }

    private static void backMakesTheQueue() {
        LateRules x = Due.with("unique 0 0 late", "range 0 0 -50 50 late rank 9");
        x.put(0, 0, 1, 0, 0);
        x.begin();
        x.put(0, 1, 2, 0, 0);
        String then = Due.queue(x);
        Due.is("the queue by the mark", then, "1:1:-2000:2:0 0:2:0:1:0");
        x.mark();
        x.set(0, 0, 0, 3);
        x.cut(0, 1);
        Due.is("the queue", Due.queue(x), "1:0:1:3:0 0:1:1:0:0 0:3:0:1:0");
        Due.is("counted", Due.since(x), "5 2 0 0 3 0 1");
        int asked = x.count(4);
        Due.is("back", x.back(0), 2);
        Due.is("the queue as it was then", Due.queue(x), then);
        Due.is("three left, two came", Due.since(x), "5 2 3 2 3 0 1");
        Due.is("nothing is counted as asked", x.count(4), asked);
        x.set(0, 1, 0, 7);
        x.later(1, false);
        Due.is("back with a rule that is late no more", x.back(0), 1);
        Due.is("the queue is what it is by that", Due.queue(x), "0:2:0:1:0");
        Due.is("of unique 7 left, 2 came", Due.since(x), "6 3 4 3 4 0 1");
        x.later(1, true);
        Due.is("back with one that is late again", x.back(0), 2);
    }

    private static void backRefused() {
        LateRules x = Due.with("unique 0 0 late", "range 0 1 0 5 late rank 60", "range 0 1 0 6 late rank 2");
        x.begin();
        x.put(0, 0, 1, 9, 0);
        x.put(0, 2, 1, 9, 0);
        x.mark();
        x.set(0, 0, 1, 3);
        x.set(0, 2, 1, 3);
        x.mark();
        x.set(0, 2, 0, 4);
        Due.is("late no more", x.later(0, false), 2);
        Due.is("late no more", x.later(1, false), 2);
        Due.is("late no more", x.later(2, false), 2);
        Due.is("unique fails by mark 1", x.back(1), -5);
        Due.is("the verdict", Due.words(x), "rule 0 unique 1");
        Due.is("nothing is gone back", x.value(0, 2, 0), 4);
        Due.is("marks stay", x.since(6), 2);
        Due.is("all fail by mark 0", x.back(0), -5);
        Due.is("the first in order", Due.words(x), "rule 2 range 0");
        Due.is("no such mark", x.back(2), -2);
        Due.is("no verdict", x.verdict(0), NOTHING);
        x.later(2, true);
        Due.is("without that one", x.back(0), -5);
        Due.is("the next", Due.words(x), "rule 0 unique 1");
        x.later(0, true);
        x.later(1, true);
        Due.is("all late: nothing is asked", x.back(0), 5);
        Due.is("it is as then", x.value(0, 0, 1), 9);
        Due.is("no act was refused", x.since(5), 0);
    }

    /** What takes the verdict and what leaves it. */
    private static void verdictStaysOrGoes() {
        LateRules x = Due.with("range 0 0 0 5", "unique 0 1 late");
        x.put(0, 0, 9, 0, 0);
        Due.is("a verdict", Due.words(x), "rule 0 range 0");
        x.sign(0);
        x.end(0);
        x.abort();
        x.mark();
        x.wouldSet(0, 0, 0, 0);
        x.begin();
        x.mark();
        x.abort();
        x.count(0);
        x.all(0);
        x.least(0, 0, 0);
        x.begin();
        Due.is("stays", Due.words(x), "rule 0 range 0");
        Due.is("a commit that holds", x.commit(), 0);
        Due.is("takes it", Due.words(x), "");
        x.put(0, 0, 9, 0, 0);
        Due.is("a commit that is not the time", x.commit(), -3);
        Due.is("takes it", x.verdict(0), NOTHING);
        x.put(0, 0, 9, 0, 0);
        Due.is("a put that can't be", x.put(3, 0, 0, 0, 0), -1);
        Due.is("takes it", x.verdict(1), NOTHING);
        x.put(0, 0, 9, 0, 0);
        Due.is("a set of no row", x.set(0, 0, 0, 0), -2);
        Due.is("takes it", x.verdict(1), NOTHING);
        x.put(0, 0, 9, 0, 0);
        Due.is("a cut of no row", x.cut(0, 0), -2);
        Due.is("takes it", x.verdict(1), NOTHING);
        x.put(0, 0, 9, 0, 0);
        Due.is("a rekey of no row", x.rekey(0, 0, 1), -2);
        Due.is("takes it", x.verdict(1), NOTHING);
        x.put(0, 0, 9, 0, 0);
        Due.is("back that is not the time", x.back(0), -3);
        Due.is("takes it", x.verdict(1), NOTHING);
        x.put(0, 0, 9, 0, 0);
        Due.is("later of no rule", x.later(5, true), -2);
        Due.is("takes it", x.verdict(1), NOTHING);
        x.put(0, 0, 9, 0, 0);
        Due.is("an act that is done", x.put(0, 0, 5, 0, 0), 2);
        Due.is("takes it", x.verdict(1), NOTHING);
    }
}
