/** The second part of the document's terms: transactions, questions, what acts do, and calls that are refused. */
final class EdgesOfTransactions extends Edges {
    private static final String REFUSED = "REFUSED";

    static void run() {
        transaction();
        touched();
        order();
        cutWithCascade();
        cutStepByStep();
        rekey();
        askedAtOnce();
        actByItself();
        commit();
        marks();
        verdict();
        words();
        textsInFull();
        backInFull();
        verdictInFull();
        refusedCodes();
        refusedChangesNothing();
    }

    private static void transaction() {
        says(II, "TRANSACTION: from BEGIN to COMMIT or ABORT.");
        LateRules x = new LateRules();
        is("none", x.count(3), 0);
        x.begin();
        is("begun", x.count(3), 1);
        x.commit();
        is("over by commit", x.count(3), 0);
        x.begin();
        x.abort();
        is("over by abort", x.count(3), 0);

        says(II, "ACTS are put(), set(), cut(), rekey().");
        LateRules y = Due.with("unique 0 0");
        y.begin();
        y.put(0, 0, 0, 0, 0);
        is("put", y.since(4), 1);
        y.set(0, 0, 0, 1);
        is("set", y.since(4), 2);
        y.rekey(0, 0, 1);
        is("rekey", y.since(4), 3);
        y.cut(0, 1);
        is("cut", y.since(4), 4);
        y.mark();
        y.back(0);
        y.later(0, true);
        is("nothing else", y.since(4), 4);
    }

    private static void touched() {
        says(II, "QUESTION: a RULE with a SUBJECT; it FAILS, if the RULE does not hold of that SUBJECT.");
        LateRules x = Due.with("unique 0 0 late", "range 0 0 0 5 late");
        x.begin();
        x.put(0, 1, 6, 0, 0);
        x.put(0, 2, 6, 0, 0);
        x.put(0, 3, 7, 0, 0);
        x.put(0, 4, 5, 0, 0);
        failing(x, 0, 6, 2, 1);
        failing(x, 0, 7, 1, 0);
        failing(x, 1, 3, 7, 1);
        failing(x, 1, 4, 5, 0);
        is("unique 6, range 1, 2, 3", x.all(0), 4);

        says(II, "An ACT TOUCHES QUESTIONS of which the STATE is another one behind it than ahead of it.");
        LateRules y = Due.with("unique 0 0", "sum 0 1 2 -99 99", "refers 1 0 0", "count 1 0 0 0 9", "tree 0 1", "range 0 0 -99 99");
        is("unique, sum, refers, count, tree, range", y.put(0, 0, 4, 5, 3), 6);
        is("the sum stays: unique, refers, count, tree, range", y.put(0, 1, 5, 5, 0), 5);
        is("refers and count", y.put(1, 0, 1, 0, 0), 2);
        is("nothing", y.set(1, 0, 1, 7), 0);
        is("unique's and range's", y.set(0, 0, 0, NULL), 2);
        is("two sums and tree", y.set(0, 0, 1, 6), 3);
        is("one sum goes, another stays as it is; tree", y.set(0, 1, 1, 6), 2);

        says(II, "THE QUEUE: QUESTIONS of late RULES of which STATE is another one than at BEGIN.");
        LateRules z = Due.with("unique 0 0 late", "range 0 0 -9 9");
        z.put(0, 0, 1, 0, 0);
        z.begin();
        is("none at first", Due.queue(z), "");
        z.set(0, 0, 0, 2);
        is("old and new", Due.queue(z), "0:1:1:0:0 0:2:0:1:0");
        z.put(0, 1, 1, 0, 0);
        is("1 is as it was", Due.queue(z), "0:2:0:1:0");
        z.put(0, 2, 2, 0, 0);
        is("2 stands once", Due.queue(z), "0:2:0:2:1");
        z.cut(0, 0);
        z.cut(0, 2);
        is("all is as it was, of what it is about", Due.queue(z), "");
        LateRules w = Due.with("range 0 0 -9 9 late", "range 0 1 -9 9 late", "range 0 2 -9 9 late");
        w.put(0, 5, 1, 1, 1);
        w.begin();
        w.set(0, 5, 0, 2);
        w.set(0, 5, 1, 3);
        w.set(0, 5, 2, 4);
        is("each value of a row is another one", Due.queue(w), "0:5:1:2:0 1:5:1:3:0 2:5:1:4:0");
    }

    private static void order() {
        says(II, "The ORDER of QUESTIONS: by RANK, then RULE, then SUBJECT, the least first.");
        LateRules x = Due.with("range 0 0 0 0 late rank 99", "unique 0 0 late", "range 0 0 0 0 late rank 0", "range 0 0 0 0 late", "unique 0 1 late rank 49");
        x.begin();
        x.put(0, 9, 9, -9, 0);
        x.put(0, 2, -99, 10, 0);
        x.put(0, 10, 10, 9, 0);
        is("the queue", Due.queue(x), "2:2:-2000:-99:1 2:9:-2000:9:1 2:10:-2000:10:1 4:-9:0:1:0 4:9:0:1:0 4:10:0:1:0 "
            + "1:-99:0:1:0 1:9:0:1:0 1:10:0:1:0 3:2:-2000:-99:1 3:9:-2000:9:1 3:10:-2000:10:1 "
            + "0:2:-2000:-99:1 0:9:-2000:9:1 0:10:-2000:10:1");
    }

    private static void cutWithCascade() {
        says(II, "cut() of a ROW: behind that, RULE by RULE, each that refers to its TABLE, with cascade or clear,");
        LateRules x = Due.with("refers 1 0 0 cascade", "refers 1 1 0 clear", "refers 1 2 0 late", "refers 2 0 1 cascade", "count 2 1 0 0 9");
        x.begin();
        x.put(0, 4, 0, 0, 0);
        x.put(1, 1, 4, NULL, NULL);
        x.put(1, 2, NULL, 4, NULL);
        x.put(1, 3, NULL, NULL, 4);
        x.put(2, 1, NULL, 4, 4);
        x.put(1, 4, NULL, NULL, NULL);
        x.put(2, 2, 4, NULL, NULL);
        x.cut(0, 4);
        is("by cascade", x.rows(1, 1), 1 << 2 | 1 << 3 | 1 << 4);
        is("by clear", row(x, 1, 2), "-1000 -1000 -1000");
        is("by neither", row(x, 1, 3), "-1000 -1000 4");
        is("by a rule of another kind, or none", row(x, 2, 1), "-1000 4 4");
        is("what refers to another table", row(x, 2, 2), "4 -1000 -1000");

        says(II, "cascade: it is cut likewise; clear: the VALUE is NULL then.");
        LateRules y = Due.with("refers 0 0 0 cascade", "refers 1 0 0 clear");
        y.put(0, 3, NULL, 0, 0);
        y.put(0, 2, 3, 0, 0);
        y.put(0, 1, 2, 0, 0);
        y.put(0, 0, NULL, 0, 0);
        y.put(1, 0, 1, 1, 1);
        y.put(1, 1, 0, 1, 1);
        is("refers 0 and 1, each of 1, 2, 3", y.cut(0, 3), 6);
        is("a chain", y.rows(0, 1), 1);
        is("what the last of it had", row(y, 1, 0), "-1000 1 1");
        is("what another one has", row(y, 1, 1), "0 1 1");

        says(II, "(All that is one ACT.)");
        LateRules z = Due.with("refers 1 0 0 cascade late", "refers 2 0 1 clear late", "range 2 1 0 9");
        z.begin();
        z.put(0, 0, 0, 0, 0);
        z.put(1, 1, 0, 0, 0);
        z.put(2, 2, 1, 0, 0);
        z.cut(0, 0);
        is("one act more", z.since(4), 4);
        LateRules w = Due.with("refers 1 0 0 cascade", "refers 2 0 0");
        w.put(0, 0, 0, 0, 0);
        w.put(1, 1, 0, 0, 0);
        w.put(2, 2, 0, 0, 0);
        is("all of it or nothing", w.cut(0, 0), -5);
        is("all of it or nothing", w.count(1), 3);
        LateRules v = Due.with("refers 1 0 0 cascade", "unique 1 1");
        v.put(0, 0, 0, 0, 0);
        v.put(1, 1, 0, 5, 0);
        v.put(1, 2, 0, 6, 0);
        is("by itself one commit: refers 0, unique 5, 6", v.cut(0, 0), 3);
        is("by itself one commit", v.count(5), 4);
    }

    /** Two rows go with (1, 5); one of them takes (2, 5) along, by which what is left of the other's kind is cleared. */
    private static LateRules twoThatGo(int taker) {
        LateRules x = Due.with("refers 0 0 1 cascade", "refers 2 1 0 cascade", "refers 0 0 2 clear");
        x.put(1, 5, 0, 0, 0);
        x.put(2, 5, 0, NULL, 0);
        x.put(0, 3, 5, 0, 0);
        x.put(0, 8, 5, 0, 0);
        x.set(2, 5, 1, taker);
        return x;
    }

    /** All 89 others refer to (0, 0), by the last three of 12 rules. */
    private static LateRules allRefer() {
        LateRules x = new LateRules();
        for (int rule = 0; rule < 9; rule++) {
            Due.rule(x, "tree 0 2");
        }
        Due.rule(x, "refers 0 0 0 cascade");
        Due.rule(x, "refers 1 1 0 cascade");
        Due.rule(x, "refers 2 2 0 cascade");
        for (int i = 0; i < 90; i++) {
            x.put(i / 30, i % 30, 0, 0, i < 60 ? NULL : 0);
        }
        return x;
    }

    private static void cutStepByStep() {
        says(II, "of each ROW (the least KEY first) that has its KEY as VALUE in that COLUMN:");
        LateRules x = twoThatGo(8);
        is("3 goes, then 8 with (2, 5)", x.wouldCut(1, 5, 0), 4);
        x.cut(1, 5);
        is("none is left", x.count(1), 0);
        LateRules all = Due.with("refers 0 1 1 cascade");
        all.put(1, 29, 29, 29, 29);
        for (int key = 0; key < 30; key++) {
            all.put(0, key, 29, key == 7 ? NULL : 29, 29);
        }
        all.cut(1, 29);
        is("all but one", all.rows(0, 1), 1 << 7);
        is("as many as there can be", allRefer().wouldCut(0, 0, 0), 90);
        LateRules gone = allRefer();
        gone.cut(0, 0);
        is("as many as there can be", gone.count(1), 0);

        says(II, "cut(): the ROW goes first;");
        LateRules itself = Due.with("refers 0 0 0 cascade", "refers 0 1 0 clear");
        itself.put(0, 7, 7, 7, 7);
        is("one that refers to itself", itself.wouldCut(0, 7, 0), 1);
        is("clears nothing", itself.wouldCut(0, 7, 1), 0);
        itself.cut(0, 7);
        is("and goes", itself.count(1), 0);

        says(II, "each further ROW is looked at as all is just then,");
        LateRules y = twoThatGo(3);
        is("3 goes with (2, 5), and so 8 is cleared", y.wouldCut(1, 5, 0), 3);
        y.cut(1, 5);
        is("8 stays", row(y, 0, 8), "-1000 0 0");
        LateRules first = Due.with("refers 0 0 1 clear", "refers 0 0 1 cascade");
        first.put(1, 5, 0, 0, 0);
        first.put(0, 3, 5, 0, 0);
        first.cut(1, 5);
        is("cleared by the rule ahead", row(first, 0, 3), "-1000 0 0");

        says(II, "and one that goes by cascade does all of its own ahead of the next KEY.");
        LateRules z = twoThatGo(3);
        z.begin();
        z.cut(1, 5);
        is("3 did all of its own ahead of 8", z.rows(0, 1), 1 << 8);
        is("also (2, 5)", z.rows(2, 1), 0);
    }

    private static void rekey() {
        says(II, "rekey(): the ROW has another KEY, its VALUES stay;");
        LateRules x = Due.with("refers 1 0 0 cascade", "refers 1 1 0 clear", "refers 1 2 0 late", "refers 0 0 0 cascade late", "refers 0 1 0 clear late");
        x.begin();
        x.put(0, 4, 9, 8, 4);
        x.rekey(0, 4, 29);
        is("the new key", row(x, 0, 29), "9 8 4");
        is("the old key", x.rows(0, 1), 1 << 29);

        says(II, "then each VALUE that refers to it by a RULE refers with cascade (also of itself) becomes that KEY, by one with clear NULL;");
        x.put(0, 0, 0, 0, 0);
        x.put(1, 1, 0, 0, 0);
        x.put(1, 2, 29, 29, 29);
        x.rekey(0, 0, 12);
        is("of itself: by cascade, by clear, by none", row(x, 0, 12), "12 -1000 0");
        is("by cascade, by clear, by neither", row(x, 1, 1), "12 -1000 0");
        is("what refers to another", row(x, 1, 2), "29 29 29");

        says(II, "RULE by RULE, the least KEY first; others stay.");
        LateRules y = Due.with("refers 1 0 0 clear rank 60", "refers 1 0 0 cascade rank 1");
        y.put(0, 4, 0, 0, 0);
        for (int key = 0; key < 30; key++) {
            y.put(1, key, 4, key, NULL);
        }
        is("refers 0 and 1, of 4 and 5", y.rekey(0, 4, 5), 4);
        for (int key = 0; key < 30; key++) {
            is("cleared by the first rule, others stay", row(y, 1, key), "-1000 " + key + " -1000");
        }

        says(II, "rekey(): ROWS are looked at as all is then (itself under its new KEY).");
        LateRules z = Due.with("refers 1 0 0 cascade", "refers 1 0 0 clear", "refers 0 0 0 cascade");
        z.put(0, 4, NULL, 0, 0);
        z.set(0, 4, 0, 4);
        z.put(1, 7, 4, 0, 0);
        z.rekey(0, 4, 6);
        is("it has the new key when the second rule looks", row(z, 1, 7), "6 0 0");
        is("itself", row(z, 0, 6), "6 0 0");
    }

    private static void askedAtOnce() {
        says(II, "Behind an ACT QUESTIONS of RULES that are not late, which it TOUCHED, are asked in ORDER;");
        LateRules x = Due.with("range 0 0 0 5 rank 60", "range 0 1 0 5 rank 40", "range 0 2 0 5 late rank 1", "range 1 0 0 5 rank 1");
        x.begin();
        x.put(0, 0, 1, 1, 1);
        is("two were asked", x.count(4), 2);
        x.put(0, 1, 6, 6, 6);
        is("the first in order", Due.words(x), "rule 1 range 1");
        is("asked up to it", x.count(4), 3);
        x.put(0, 1, 6, 5, 6);
        is("the second in order", Due.words(x), "rule 0 range 1");
        is("asked up to it", x.count(4), 5);
        x.put(0, 1, 5, 5, 6);
        is("the late one is not asked", Due.words(x), "");
        is("two were asked", x.count(4), 7);

        says(II, "if one FAILS, all is as ahead of the ACT: it is REFUSED.");
        LateRules y = Due.with("range 0 0 0 5", "unique 0 1 late", "refers 1 0 0 clear");
        y.begin();
        y.put(0, 0, 1, 1, 1);
        y.put(1, 0, 0, 0, 0);
        String before = Picture.of(y);
        is("put", y.put(0, 1, 6, 2, 2), -5);
        is("set", y.set(0, 0, 0, 6), -5);
        is("all is as it was", Picture.of(y), before);
        is("refused", y.since(5), 2);
    }

    private static void actByItself() {
        says(II, "An ACT outside of TRANSACTIONS is one by itself: BEGIN, ACT, COMMIT");
        LateRules x = Due.with("unique 0 0 late", "range 0 1 0 9");
        is("put", x.put(0, 0, 1, 1, 1), 2);
        is("set", x.set(0, 0, 0, 2), 2);
        is("rekey", x.rekey(0, 0, 1), 2);
        is("cut", x.cut(0, 1), 2);
        is("four commits", x.count(5), 4);
        is("no transaction", x.count(3), 0);
        is("no queue", x.count(2), 0);
        is("asked by the last", Due.asked(x), "0:2:0");
        x.put(0, 0, 1, 1, 1);
        is("the late rule fails by the commit", x.put(0, 1, 1, 1, 1), -5);
        is("it went back", x.count(6), 1);
        is("rows", x.count(1), 1);

        says(II, "(no COMMIT, if the ACT is REFUSED).");
        is("refused by the prompt rule", x.put(0, 1, 2, 10, 1), -5);
        is("refused otherwise", x.put(0, 0, 2, 2, 2), -4);
        is("refused otherwise", x.cut(1, 0), -2);
        is("refused otherwise", x.set(0, 0, 3, 2), -1);
        is("refused otherwise", x.rekey(0, 0, 0), -4);
        is("five commits", x.count(5), 5);
        is("one went back", x.count(6), 1);
    }

    private static void commit() {
        says(II, "COMMIT: THE QUEUE is asked in ORDER till one FAILS; then all is as at BEGIN, else it stays;");
        LateRules x = Due.with("unique 0 0 late", "range 0 1 0 9 late rank 7");
        x.put(0, 5, 5, 5, 5);
        x.begin();
        x.set(0, 5, 1, 6);
        x.put(0, 6, 7, 7, 7);
        is("it holds", x.commit(), 3);
        is("asked in order", Due.asked(x), "1:5:0 1:6:0 0:7:0");
        is("it stays", row(x, 0, 5) + " " + row(x, 0, 6), "5 6 5 7 7 7");
        x.begin();
        x.cut(0, 5);
        x.put(0, 7, 7, 7, 7);
        x.put(0, 8, 8, 8, 8);
        x.rekey(0, 6, 9);
        is("it does not hold", x.commit(), -5);
        is("till one fails", Due.asked(x), "1:5:0 1:6:0 1:7:0 1:8:0 1:9:0 0:5:0 0:7:1");
        is("as at begin", row(x, 0, 5) + " " + row(x, 0, 6), "5 6 5 7 7 7");
        is("as at begin", x.rows(0, 1), 1 << 5 | 1 << 6);

        says(II, "the TRANSACTION is over, THE QUEUE is empty, MARKS are gone.");
        for (int fails = 0; fails < 2; fails++) {
            LateRules y = Due.with("unique 0 0 late");
            y.begin();
            y.put(0, 0, 1, 1, 1);
            y.put(0, 1, 2 - fails, 1, 1);
            y.mark();
            y.commit();
            is("over", y.count(3), 0);
            is("over", y.commit(), -3);
            is("empty", y.count(2), 0);
            is("empty", y.group(NONE, 0), 0);
            is("gone", y.fresh(0, 0), -1);
            y.begin();
            is("gone", y.since(6), 0);
            is("gone", y.back(0), -2);
            is("empty", y.count(2), 0);
        }
    }

    private static void marks() {
        says(II, "MARKS 0, 1, .. (8 at most) within a TRANSACTION: all ROWS as they are then.");
        LateRules x = new LateRules();
        is("outside", x.mark(), -3);
        x.begin();
        for (int mark = 0; mark < 8; mark++) {
            x.put(0, mark, mark, mark, mark);
            is("mark", x.mark(), mark);
        }
        is("a ninth", x.mark(), -4);
        x.put(0, 29, 9, 9, 9);
        for (int mark = 7; mark >= 0; mark--) {
            x.back(mark);
            is("rows by mark " + mark, x.rows(0, 1), (2 << mark) - 1);
        }

        says(II, "BACK to one: they are as then (THE QUEUE is what it is by that);");
        LateRules y = Due.with("unique 0 0 late");
        y.put(0, 0, 1, 1, 1);
        y.begin();
        y.mark();
        y.set(0, 0, 0, 2);
        y.mark();
        y.cut(0, 0);
        y.put(1, 0, 0, 0, 0);
        is("back(1)", y.back(1), 2);
        is("as then", row(y, 0, 0), "2 1 1");
        is("as then", y.count(1), 1);
        is("the queue by that", Due.queue(y), "0:1:1:0:0 0:2:0:1:0");
        is("back(0)", y.back(0), 0);
        is("as then", row(y, 0, 0), "1 1 1");
        is("the queue by that", Due.queue(y), "");

        says(II, "MARKS behind it are gone, it stays.");
        is("back(1)", y.back(1), -2);
        is("marks", y.since(6), 1);
        y.put(0, 9, 9, 9, 9);
        is("back(0) again", y.back(0), 0);
        is("as then", y.count(1), 1);
        is("the next mark", y.mark(), 1);
    }

    private static LateRules withVerdict() {
        LateRules x = Due.with("range 0 0 0 5", "unique 0 1 late");
        x.put(0, 0, 1, 1, 1);
        refusedBy(x, x.put(0, 7, 6, 2, 2), "rule 0 range 7");
        return x;
    }

    private static void verdict() {
        says(II, "THE VERDICT: of the latest ACT, commit(), back(), rule(), drop(), later(), if it was REFUSED as something FAILED: that first QUESTION (RULE, SUBJECT);");
        LateRules x = withVerdict();
        refusedBy(x, x.set(0, 0, 0, -1), "rule 0 range 0");
        refusedBy(x, x.put(0, 1, 1, 1, 1), "rule 1 unique 1");
        LateRules y = Due.with("range 0 0 0 5 late", "unique 0 1 late", "refers 1 0 0");
        y.put(0, 0, 1, 1, 1);
        y.put(1, 0, 0, 0, 0);
        refusedBy(y, y.cut(0, 0), "rule 2 refers 0");
        refusedBy(y, y.rekey(0, 0, 1), "rule 2 refers 0");
        y.begin();
        y.set(0, 0, 0, 9);
        y.mark();
        refusedBy(y, y.later(0, false), "rule 0 range 0");
        y.put(0, 3, 9, 1, 3);
        refusedBy(y, y.later(1, false), "rule 1 unique 1");
        refusedBy(y, y.commit(), "rule 0 range 0");
        refusedBy(y, Due.rule(y, "range 0 2 5 9"), "rule 3 range 0");
        y.begin();
        y.set(0, 0, 0, 9);
        y.mark();
        y.set(0, 0, 0, 1);
        y.later(0, false);
        refusedBy(y, y.back(0), "rule 0 range 0");

        says(II, "at first, and if it was not REFUSED so: nothing.");
        LateRules z = new LateRules();
        is("at first", z.verdict(0), NOTHING);
        is("at first", z.verdict(1), NOTHING);
        is("at first", z.verdict(2), 0);
        is("not refused", y.set(0, 0, 0, 2), 1);
        is("nothing", y.verdict(0), NOTHING);
        is("nothing", y.verdict(1), NOTHING);
        is("nothing", y.verdict(2), 0);
    }

    private static void words() {
        says(II, "THE WORDS of it: rule and its number, the first word of its TEXT, its SUBJECT, as signs, with one blank between each two (like: rule 3 unique -7);");
        String[] texts = {"unique 0 0", "refers 0 0 1", "range 0 0 0 5", "sum 0 0 1 0 5", "count 0 0 1 0 0", "tree 0 0"};
        String[] due = {"unique -7", "refers -7", "range 3", "sum -7", "count 9", "tree 9"};
        for (int kind = 0; kind < 6; kind++) {
            LateRules x = Due.with("tree 2 2", "tree 2 2", "tree 2 2", "  " + texts[kind] + "  rank 3");
            x.put(1, 9, 0, 0, 0);
            x.put(0, 9, kind == 4 || kind == 5 ? 9 : kind == 0 ? -7 : NULL, 1, 0);
            if (kind < 4) {
                x.put(0, 3, -7, -1, 0);
            }
            is("the words", Due.words(x), "rule 3 " + due[kind]);
            is("how many", x.verdict(2), 7 + due[kind].length());
        }
        LateRules high = new LateRules();
        for (int rule = 0; rule < 12; rule++) {
            Due.rule(high, rule == 11 ? "unique 0 0" : "tree 1 1");
        }
        high.put(0, 0, -99, 0, 0);
        refusedBy(high, high.put(0, 1, -99, 0, 0), "rule 11 unique -99");
        high.put(0, 1, 0, 0, 0);
        refusedBy(high, high.put(0, 2, 0, 0, 0), "rule 11 unique 0");

        says(II, "none without.");
        high.put(0, 2, 1, 0, 0);
        is("no words", high.verdict(2), 0);
        is("no sign", high.letter(0), -1);
    }

    private static void textsInFull() {
        says(II, "IN FULL. THE TEXT is empty behind rule(), whatever that answers;");
        LateRules x = Due.with("tree 0 0 late");
        is("a rule", x.count(8), 0);
        is("a fault", Due.rule(x, "tree 0 3"), -1007);
        is("empty", x.count(8), 0);
        x.put(0, 0, 1, 5, 1);
        x.put(0, 1, 2, 5, 2);
        is("it does not hold", Due.rule(x, "unique 0 1"), -5);
        is("empty", x.count(8), 0);
        x.begin();
        is("not the time", Due.rule(x, "tree 0 1"), -3);
        is("empty", x.count(8), 0);
        x.abort();
        for (int i = 1; i < 12; i++) {
            Due.rule(x, "tree 0 0");
        }
        is("no room", Due.rule(x, "tree 0 1"), -4);
        is("empty", x.count(8), 0);
        is("and so it is a fault", x.rule(), -1000);

        says(II, "a FAULT goes ahead of -3, -4, -5.");
        is("ahead of no room", Due.rule(x, "unique 0 1 x"), -1011);
        x.begin();
        is("ahead of the time", Due.rule(x, "unique 0 1 x"), -1011);
        x.abort();
        x.drop(3);
        is("ahead of what fails", Due.rule(x, "unique 0 1 x"), -1011);
        is("no verdict", x.verdict(0), NOTHING);
        is("which does", Due.rule(x, "unique 0 1"), -5);

        says(II, "A - without a digit behind it begins no token;");
        fault("-", 0);
        fault("unique - 1", 7);
        fault("unique 0 -", 9);
        fault("range 0 0 --1 1", 10);
        fault("range 0 0 -a 1", 10);
        fault("range 0 0 - 1 1", 10);
        fault("unique 0 0-", 10);

        says(II, "a number of five digits or more, one out of bounds, HIGH below LOW are FAULTS at the first sign of that number;");
        fault("range 0 0 -10000 1", 10);
        fault("range 0 0 1 00001", 12);
        fault("range 0 0 1 99999999999", 12);
        fault("unique 3 9", 7);
        fault("refers 0 0 -1", 11);
        fault("range 0 0 -5 -6", 13);
        fault("sum 0 0 0 1 0", 12);
        fault("count 0 0 0 1    0", 17);

        says(II, "cascade, clear can stand behind refers alone.");
        for (String word : new String[] {"cascade", "clear"}) {
            fault("unique 0 0 " + word, 11);
            fault("range 0 0 0 0 " + word, 14);
            fault("sum 0 0 0 0 0 " + word, 14);
            fault("count 0 0 0 0 0 " + word, 16);
            fault("tree 0 0 " + word, 9);
            fault("refers 0 0 0 late " + word, 18);
            fault("refers 0 0 0 rank 1 " + word, 20);
            is("refers " + word, Due.rule(new LateRules(), "refers 0 0 0 " + word + " late rank 1"), 0);
        }

        says(II, "A RULE has to hold as it comes, late or not; THE VERDICT of rule() tells the number that it would have.");
        LateRules y = Due.with("tree 0 0", "tree 0 0", "tree 0 0");
        y.put(1, 4, 7, 7, 7);
        y.put(1, 5, 7, 8, 9);
        y.put(1, 6, 6, 8, 9);
        refusedBy(y, Due.rule(y, "unique 1 0"), "rule 3 unique 7");
        refusedBy(y, Due.rule(y, "unique 1 0 late"), "rule 3 unique 7");
        y.drop(1);
        refusedBy(y, Due.rule(y, "unique 1 1 late rank 9"), "rule 1 unique 8");
        refusedBy(y, Due.rule(y, "refers 1 0 1 clear late"), "rule 1 refers 7");
        refusedBy(y, Due.rule(y, "range 1 2 8 9 late"), "rule 1 range 4");
        refusedBy(y, Due.rule(y, "range 1 2 7 8"), "rule 1 range 5");
        refusedBy(y, Due.rule(y, "sum 1 0 1 9 15 late"), "rule 1 sum 6");
        refusedBy(y, Due.rule(y, "count 1 1 1 1 9 late"), "rule 1 count 4");
        refusedBy(y, Due.rule(y, "tree 1 0 late"), "rule 1 tree 6");
        is("none of them came", y.count(0), 2);
    }

    private static void backInFull() {
        says(II, "By COMMIT that goes back and by ABORT ROWS are as at BEGIN; which RULES are late stays as it was told.");
        for (int way = 0; way < 2; way++) {
            LateRules x = Due.with("unique 0 0 late", "unique 0 1 late", "unique 0 2");
            x.put(0, 0, 1, 1, 1);
            x.begin();
            x.put(0, 1, 1, 2, 2);
            x.set(0, 0, 1, 9);
            x.later(1, false);
            x.later(2, true);
            is("it ends", way == 0 ? x.commit() : x.abort(), way == 0 ? -5 : 2);
            is("rows", x.rows(0, 1), 1);
            is("values", row(x, 0, 0), "1 1 1");
            is("late", x.told(0, 6), 1);
            is("late no more", x.told(1, 6), 0);
            is("late now", x.told(2, 6), 1);
        }

        says(II, "An ACT by itself of which the COMMIT goes back answers -5 (asked() tells what it asked);");
        LateRules y = Due.with("unique 0 0 late", "range 0 1 0 5 late rank 9", "range 0 2 0 5");
        y.put(0, 0, 1, 1, 1);
        is("put", y.put(0, 1, 1, 2, 2), -5);
        is("asked", Due.asked(y), "1:1:0 0:1:1");
        is("set", y.set(0, 0, 1, 6), -5);
        is("asked", Due.asked(y), "1:0:1");

        says(II, "one that is REFUSED ahead of its COMMIT leaves what asked() tells.");
        is("by a prompt rule", y.put(0, 1, 1, 2, 6), -5);
        is("asked", Due.asked(y), "1:0:1");
        is("otherwise", y.put(0, 0, 1, 2, 2), -4);
        is("asked", Due.asked(y), "1:0:1");

        says(II, "back() asks all QUESTIONS there can be of RULES that are not late, of ROWS as by the MARK;");
        LateRules z = Due.with("range 0 0 0 5 late", "unique 0 1 late");
        z.begin();
        z.put(0, 3, 7, 1, 1);
        z.put(0, 4, 8, 1, 1);
        z.put(0, 5, 1, 1, 1);
        z.mark();
        z.cut(0, 3);
        z.cut(0, 4);
        is("late no more, and holds now", z.later(0, false), 1);
        refusedBy(z, z.back(0), "rule 0 range 3");
        is("nothing is gone back", z.rows(0, 1), 1 << 5);
        z.later(0, true);
        is("late ones are not asked", z.back(0), 4);
        LateRules ring = Due.with("tree 0 0 late");
        ring.put(0, 1, 2, 0, 0);
        ring.put(0, 2, NULL, 0, 0);
        ring.begin();
        ring.set(0, 2, 0, 1);
        ring.mark();
        ring.set(0, 2, 0, NULL);
        ring.later(0, false);
        refusedBy(ring, ring.back(0), "rule 0 tree 1");

        says(II, "behind it THE QUEUE is made anew.");
        is("the queue", Due.queue(z), "0:3:-2000:7:1 0:4:-2000:8:1 0:5:-2000:1:0 1:1:0:3:1");
        z.put(0, 6, 1, 1, 1);
        is("back", z.back(0), 4);
        is("the queue", Due.queue(z), "0:3:-2000:7:1 0:4:-2000:8:1 0:5:-2000:1:0 1:1:0:3:1");
    }

    private static void takesIt(String name, Call call, int due) {
        LateRules x = withVerdict();
        is(name, call.on(x), due);
        is(name + " takes the rule", x.verdict(0), NOTHING);
        is(name + " takes the subject", x.verdict(1), NOTHING);
        is(name + " takes the words", x.verdict(2), 0);
        is(name + " takes the signs", x.letter(0), -1);
    }

    private static void leavesIt(String name, Call call) {
        LateRules x = withVerdict();
        call.on(x);
        is(name + " leaves it", Due.words(x), "rule 0 range 7");
        is(name + " leaves it", x.verdict(0), 0);
        is(name + " leaves it", x.verdict(1), 7);
    }

    private static void verdictInFull() {
        says(II, "THE VERDICT becomes nothing by each ACT, commit(), back(), rule(), drop(), later() that is not REFUSED as something FAILED (also by one REFUSED otherwise);");
        takesIt("put", x -> x.put(0, 1, 2, 2, 2), 2);
        takesIt("put refused", x -> x.put(0, 30, 2, 2, 2), -1);
        takesIt("put refused", x -> x.put(0, 0, 2, 2, 2), -4);
        takesIt("set", x -> x.set(0, 0, 2, 2), 0);
        takesIt("set refused", x -> x.set(0, 0, 3, 2), -1);
        takesIt("set refused", x -> x.set(0, 1, 2, 2), -2);
        takesIt("set refused", x -> x.set(0, 0, 2, 1), -4);
        takesIt("cut", x -> x.cut(0, 0), 2);
        takesIt("cut refused", x -> x.cut(3, 0), -1);
        takesIt("cut refused", x -> x.cut(0, 1), -2);
        takesIt("rekey", x -> x.rekey(0, 0, 1), 2);
        takesIt("rekey refused", x -> x.rekey(0, 0, 30), -1);
        takesIt("rekey refused", x -> x.rekey(0, 1, 2), -2);
        takesIt("rekey refused", x -> x.rekey(0, 0, 0), -4);
        takesIt("commit", x -> x.begin() + x.commit(), 1);
        takesIt("commit refused", x -> x.commit(), -3);
        takesIt("back", x -> x.begin() + x.mark() + x.back(0), 1);
        takesIt("back refused", x -> x.back(0), -3);
        takesIt("back refused", x -> x.begin() + x.back(0), -1);
        takesIt("rule", x -> Due.rule(x, "tree 0 0"), 2);
        takesIt("rule refused", x -> x.rule(), -1000);
        takesIt("rule refused", x -> x.begin() + Due.rule(x, "tree 0 0"), -2);
        takesIt("drop", x -> x.drop(0), 1);
        takesIt("drop refused", x -> x.drop(2), -2);
        takesIt("drop refused", x -> x.begin() + x.drop(0), -2);
        takesIt("later", x -> x.later(0, true), 0);
        takesIt("later", x -> x.later(1, false), 0);
        takesIt("later refused", x -> x.later(2, false), -2);
        takesIt("later refused", x -> x.later(0, false), -4);

        says(II, "begin(), abort(), mark() and all that asks leave it.");
        leavesIt("begin", x -> x.begin() + x.begin());
        leavesIt("abort", x -> x.begin() + x.abort());
        leavesIt("abort refused", x -> x.abort());
        leavesIt("mark", x -> x.begin() + x.mark());
        leavesIt("mark refused", x -> x.mark());
        leavesIt("sign", x -> x.sign(0));
        leavesIt("end", x -> x.end(0) ? 1 : 0);
        leavesIt("value", x -> x.value(0, 0, 0));
        leavesIt("rows", x -> x.rows(0, 0));
        leavesIt("told", x -> x.told(0, 0));
        leavesIt("queue", x -> throwsNone(y -> y.queue(0, 0), x) ? 1 : 0);
        leavesIt("group", x -> x.group(0, 0));
        leavesIt("asked", x -> x.asked(0, 0));
        leavesIt("fresh", x -> x.fresh(0, 0));
        leavesIt("question", x -> x.question(0, 0, 1));
        leavesIt("first", x -> x.begin() + x.first(0));
        leavesIt("all", x -> x.all(0));
        leavesIt("verdict", x -> x.verdict(3));
        leavesIt("letter", x -> x.letter(99));
        leavesIt("wouldSet", x -> x.wouldSet(0, 0, 0, 9));
        leavesIt("wouldSet", x -> x.wouldSet(0, 0, 0, 2));
        leavesIt("wouldCut", x -> x.wouldCut(0, 0, 2));
        leavesIt("leans", x -> x.leans(0, 0, 0));
        leavesIt("least", x -> x.least(0, 0, 0));
        leavesIt("depth", x -> x.depth(0, 0));
        leavesIt("since", x -> x.since(0));
        leavesIt("count", x -> x.count(0));

        says(II, "Without a TRANSACTION THE QUEUE is empty.");
        LateRules x = Due.with("unique 0 0 late", "unique 0 1 late");
        x.begin();
        x.commit();
        x.put(0, 0, 1, 1, 1);
        is("being late no more takes none", x.later(0, false), 0);
        is("none", x.count(2), 0);
        is("becoming late brings none", x.later(0, true), 0);
        is("none", x.count(2), 0);
        is("none of the rule", x.told(0, 9), 0);
        is("no groups", x.group(NONE, 0), 0);
        is("none", throwsNone(y -> y.queue(0, 0), x), true);
    }

    private static void refusedCodes() {
        says(REFUSED, "-1 a number that can't be;");
        LateRules x = Due.with("range 0 0 0 5", "unique 0 1 late");
        x.put(0, 0, 1, 1, 1);
        is("put", x.put(0, 0, 1, 1, 100), -1);
        is("set", x.set(0, 30, 0, 1), -1);
        is("cut", x.cut(-1, 0), -1);
        is("rekey", x.rekey(0, 0, -1), -1);

        says(REFUSED, "-2 no such ROW, RULE, MARK;");
        is("set", x.set(0, 1, 0, 1), -2);
        is("cut", x.cut(1, 0), -2);
        is("rekey", x.rekey(0, 1, 0), -2);
        is("drop", x.drop(2), -2);
        is("later", x.later(2, true), -2);
        x.begin();
        is("back", x.back(0), -2);

        says(REFUSED, "-3 it is not the time (a TRANSACTION, or none);");
        is("begin", x.begin(), -3);
        is("rule", Due.rule(x, "tree 0 0"), -3);
        is("drop", x.drop(0), -3);
        x.abort();
        is("commit", x.commit(), -3);
        is("abort", x.abort(), -3);
        is("mark", x.mark(), -3);
        is("back", x.back(0), -3);

        says(REFUSED, "-4 it is so already, no room;");
        is("put", x.put(0, 0, 2, 2, 2), -4);
        is("set", x.set(0, 0, 0, 1), -4);
        is("rekey", x.rekey(0, 0, 0), -4);
        is("later", x.later(1, true), -4);
        x.begin();
        for (int i = 0; i < 8; i++) {
            x.mark();
        }
        is("mark", x.mark(), -4);
        x.abort();
        for (int i = 0; i < 10; i++) {
            Due.rule(x, "tree 0 0");
        }
        is("rule", Due.rule(x, "tree 0 0"), -4);

        says(REFUSED, "-5 something FAILED.");
        is("set", x.set(0, 0, 0, 6), -5);
        is("its commit", x.put(0, 1, 2, 1, 1), -5);
        x.begin();
        x.put(0, 1, 2, 1, 1);
        is("later", x.later(1, false), -5);
        is("commit", x.commit(), -5);

        says(REFUSED, "The first of these in that order.");
        is("-1 ahead of -2", x.set(0, 1, 0, 100), -1);
        is("-1 ahead of -2", x.rekey(0, 1, 30), -1);
        is("-1 ahead of -4", x.put(0, 0, 1, 1, -100), -1);
        is("-1 ahead of -5", x.put(0, 1, 6, 1, -100), -1);
        is("-2 ahead of -4", x.rekey(0, 1, 0), -2);
        is("-2 ahead of -4", x.rekey(0, 1, 1), -2);
        is("-4 ahead of -5", x.put(0, 0, 6, 1, 1), -4);
        x.begin();
        is("-2 ahead of -3", x.drop(12), -2);
        is("-3 ahead of -4", Due.rule(x, "tree 0 0"), -3);
        x.abort();
        x.drop(11);
        x.put(0, 2, 1, 2, 1);
        x.begin();
        is("-3 ahead of -5", Due.rule(x, "unique 0 0"), -3);
        x.abort();
        is("-5", Due.rule(x, "unique 0 0"), -5);
        Due.rule(x, "tree 0 0");
        is("-4 ahead of -5", Due.rule(x, "unique 0 0"), -4);
        is("no verdict", x.verdict(0), NOTHING);
    }

    /** Rules, rows, and a commit behind it; within, a queue and marks, too. */
    private static LateRules scene(boolean within) {
        LateRules x = Due.with("range 0 0 0 5", "unique 0 1 late", "refers 1 0 0", "range 1 1 0 9 late");
        x.put(0, 0, 1, 1, 1);
        x.put(0, 1, 1, 2, 1);
        x.put(1, 4, 0, 0, 0);
        if (within) {
            x.begin();
            x.put(0, 2, 1, 3, 1);
            x.set(1, 4, 1, 10);
            x.mark();
            x.set(0, 1, 1, 3);
            x.mark();
            x.set(1, 4, 1, 9);
        }
        x.sign('t' << 24 | 'r' << 16 | 'e' << 8 | 'e');
        return x;
    }

    private static void changesNothing(boolean within, String name, Call call, int due) {
        LateRules x = scene(within);
        String before = Picture.of(x);
        is(name, call.on(x), due);
        is(name + " changes nothing", Picture.of(x), before);
        is(name + " leaves the text", x.sign(0), 8);
    }

    private static void refusedChangesNothing() {
        says(REFUSED, "REFUSED calls answer as told, change nothing but THE VERDICT (and THE TEXT, which rule() empties):");
        for (int time = 0; time < 2; time++) {
            boolean within = time == 1;
            changesNothing(within, "put", x -> x.put(0, 3, 1, 1, 100), -1);
            changesNothing(within, "put", x -> x.put(0, 0, 2, 9, 2), -4);
            changesNothing(within, "put", x -> x.put(0, 3, 6, 1, 1), -5);
            changesNothing(within, "put", x -> x.put(0, 3, 6, 9, 1), -5);
            changesNothing(within, "set", x -> x.set(0, 0, 3, 2), -1);
            changesNothing(within, "set", x -> x.set(0, 3, 0, 2), -2);
            changesNothing(within, "set", x -> x.set(0, 0, 0, 1), -4);
            changesNothing(within, "set", x -> x.set(0, 0, 0, 6), -5);
            changesNothing(within, "cut", x -> x.cut(0, 30), -1);
            changesNothing(within, "cut", x -> x.cut(0, 3), -2);
            changesNothing(within, "cut", x -> x.cut(0, 0), -5);
            changesNothing(within, "rekey", x -> x.rekey(0, 0, 30), -1);
            changesNothing(within, "rekey", x -> x.rekey(0, 3, 4), -2);
            changesNothing(within, "rekey", x -> x.rekey(0, 0, 1), -4);
            changesNothing(within, "rekey", x -> x.rekey(0, 0, 3), -5);
            changesNothing(within, "drop", x -> x.drop(4), -2);
            changesNothing(within, "later", x -> x.later(4, true), -2);
            changesNothing(within, "later", x -> x.later(1, true), -4);
        }
        changesNothing(true, "later", x -> x.later(1, false), -5);
        changesNothing(true, "drop", x -> x.drop(1), -3);
        changesNothing(true, "begin", x -> x.begin(), -3);
        changesNothing(true, "back", x -> x.back(2), -2);
        changesNothing(false, "back", x -> x.back(0), -3);
        changesNothing(false, "commit", x -> x.commit(), -3);
        changesNothing(false, "abort", x -> x.abort(), -3);
        changesNothing(false, "mark", x -> x.mark(), -3);
        LateRules y = scene(true);
        is("rule 3 is late no more", y.later(3, false), 1);
        String before = Picture.of(y);
        refusedBy(y, y.back(0), "rule 3 range 4");
        is("back changes nothing", Picture.of(y), before);
        LateRules full = scene(true);
        for (int mark = 2; mark < 8; mark++) {
            full.mark();
        }
        before = Picture.of(full);
        is("mark", full.mark(), -4);
        is("mark changes nothing", Picture.of(full), before);
        LateRules z = scene(false);
        z.end(0);
        before = Picture.of(z);
        is("rule", Due.rule(z, "tree 0 0 x"), -1009);
        is("a fault changes nothing", Picture.of(z), before);
        LateRules w = scene(false);
        w.end(0);
        before = Picture.of(w);
        is("rule", Due.rule(w, "range 0 1 0 1"), -5);
        is("one that does not hold changes nothing", Picture.of(w), before);
        LateRules v = scene(true);
        v.end(0);
        before = Picture.of(v);
        is("rule", Due.rule(v, "tree 0 0"), -3);
        is("one that is not in time changes nothing", Picture.of(v), before);
    }
}
