import java.io.IOException;
import java.nio.file.Files;
import java.nio.file.Path;

/** What the document says ahead of its terms, of the interface as a whole, and of what is not promised. */
final class EdgesOfWhole extends Edges {
    private static final String WHOLE = "What it is";
    private static final String INTERFACE = "Interface";
    private static final String NOT_PROMISED = "Not promised";

    static void run(Path root) throws IOException {
        lateAndPrompt();
        queueAndRanks();
        marksAndFollowers();
        wordsAndPaper();
        headings(Files.readString(root.resolve("src/main/java/LateRules.java")));
        twoObjects();
    }

    private static void lateAndPrompt() {
        says(WHOLE, "Tables under rules that may be asked late: rows with values,");
        LateRules late = Due.with("refers 0 0 1 late");
        late.begin();
        is("the row waits for the one that it refers to", late.put(0, 0, 5, 1, NULL), 1);
        is("which comes", late.put(1, 5, 0, 0, 0), 1);
        is("asked late, it holds", late.commit(), 1);
        is("values", row(late, 0, 0), "5 1 -1000");
        LateRules prompt = Due.with("refers 0 0 1");
        prompt.begin();
        is("asked at once, it does not", prompt.put(0, 0, 5, 1, NULL), -5);

        says(WHOLE, "rules told as texts (unlike ones, ones that refer, ranges, sums, counts, trees),");
        LateRules x = Due.with("unique 0 0", "refers 0 0 0", "range 0 0 0 0", "sum 0 0 0 0 0", "count 0 0 0 0 0", "tree 0 0");
        for (int rule = 0; rule < 6; rule++) {
            is("kind", x.told(rule, 0), rule);
        }

        says(WHOLE, "acts within a transaction;");
        LateRules y = new LateRules();
        y.put(0, 0, 1, 1, 1);
        y.put(0, 1, 1, 1, 1);
        y.begin();
        y.put(1, 1, 1, 1, 1);
        y.set(0, 0, 0, 9);
        y.cut(0, 1);
        y.rekey(0, 0, 7);
        is("four acts", y.since(4), 4);
        y.abort();
        is("as many rows as there were", y.count(1), 2);
        is("with their values", row(y, 0, 0) + ", " + row(y, 0, 1), "1 1 1, 1 1 1");
    }

    private static void queueAndRanks() {
        says(WHOLE, "each act touches questions, each question stands once in a queue, as long as what it is about is other than it was when the "
            + "transaction began, and is struck off when it is as it was;");
        LateRules x = Due.with("range 0 0 -9 9 late");
        x.put(0, 3, 1, 0, 0);
        x.begin();
        is("nothing yet", Due.queue(x), "");
        is("touched", x.set(0, 3, 0, 2), 1);
        is("it stands there", Due.queue(x), "0:3:1:2:0");
        is("touched again", x.set(0, 3, 0, 50), 1);
        is("it stands there once", Due.queue(x), "0:3:1:50:1");
        is("touched again", x.set(0, 3, 0, 1), 1);
        is("struck off", Due.queue(x), "");

        says(WHOLE, "rules that are asked at once after each act, and late ones, all of a rule together, by ranks, when all is to hold;");
        LateRules y = Due.with("unique 0 0 late", "range 0 1 0 9", "range 0 2 -99 99 late rank 3");
        y.begin();
        y.put(0, 7, 4, 0, 0);
        is("asked at once", y.count(4), 1);
        y.put(0, 2, 3, 0, 0);
        is("asked at once", y.count(4), 2);
        is("not the late ones", y.asked(NONE, 0), 0);
        is("both of each", y.commit(), 4);
        is("a rule together, by ranks", Due.asked(y), "2:2:0 2:7:0 0:3:0 0:4:0");
    }

    private static void marksAndFollowers() {
        says(WHOLE, "marks to which one goes back, with the queue as it was then;");
        LateRules x = Due.with("unique 0 0 late");
        x.begin();
        x.put(0, 0, 4, 0, 0);
        String then = Due.queue(x);
        x.mark();
        x.set(0, 0, 0, 5);
        x.put(0, 1, 5, 0, 0);
        is("another queue", Due.queue(x), "0:5:0:2:1");
        is("back", x.back(0), 1);
        is("the queue as it was", Due.queue(x), then);

        says(WHOLE, "rows that go with those they refer to;");
        LateRules y = Due.with("refers 0 0 1 cascade", "refers 2 1 0 cascade");
        y.put(1, 8, 0, 0, 0);
        y.put(0, 3, 8, 0, 0);
        y.put(2, 5, 0, 3, 0);
        y.cut(1, 8);
        is("all three are gone", y.count(1), 0);
    }

    private static void wordsAndPaper() {
        says(WHOLE, "what would fail first, in words;");
        LateRules x = Due.with("range 0 0 0 9 late", "unique 0 1 late rank 4");
        x.put(0, 0, 1, -7, 0);
        x.begin();
        x.put(0, 1, 10, -7, 0);
        is("it would be this rule", x.first(0), 1);
        is("of this", x.first(1), -7);
        x.commit();
        is("in words", Due.words(x), "rule 1 unique -7");

        says(WHOLE, "what an act would touch;");
        is("it would", x.wouldSet(0, 0, 1, 5), 2);
        is("it does", x.set(0, 0, 1, 5), 2);
        is("it would", x.wouldCut(0, 0, 2), 2);
        is("it does", x.cut(0, 0), 2);

        says(WHOLE, "who leans on whom.");
        LateRules y = Due.with("refers 0 0 1", "refers 1 0 2");
        y.put(2, 2, 0, 0, 0);
        y.put(1, 1, 2, 0, 0);
        y.put(0, 0, 1, 0, 0);
        is("one straight", y.leans(2, 2, 0), 1);
        is("one by that", y.leans(2, 2, 1), 2);
        is("none", y.leans(0, 0, 1), 0);
    }

    private static void headings(String source) {
        heading(source, "Ahead of the calls `sign`, `end`, `rule`, `drop`, `later` the interface says: ---- rules.");
        heading(source, "Ahead of the calls `put`, `set`, `cut`, `rekey` the interface says: ---- acts.");
        heading(source, "Ahead of the calls `begin`, `commit`, `abort`, `mark`, `back` the interface says: ---- transactions.");
        heading(source, "Ahead of the calls `value`, `rows`, `told`, `queue`, `group`, `asked`, `fresh`, `question`, `first`, `all`, "
            + "`verdict`, `letter` the interface says: ---- what there is.");
        heading(source, "Ahead of the calls `wouldSet`, `wouldCut`, `leans`, `least`, `depth`, `since`, `count` the interface says: ---- on paper.");
    }

    /** The calls stand behind their heading and ahead of the next one. */
    private static void heading(String source, String sentence) {
        says(INTERFACE, sentence);
        String[] parts = sentence.split("`");
        String last = parts[parts.length - 1];
        int from = source.indexOf("// " + last.substring(last.indexOf("----"), last.length() - 1));
        int to = source.indexOf("// ----", from + 1);
        for (int i = 1; i < parts.length - 1; i += 2) {
            int at = source.indexOf(" " + parts[i] + "(", source.indexOf("// ----"));
            is(parts[i] + " stands there", from >= 0 && at > from && at < to, true);
        }
    }

    private static void twoObjects() {
        says(NOT_PROMISED, "How the state is held inside the object is free, as are the speed of each call, the text of toString and the behaviour "
            + "of equals and hashCode. Use of one object from several threads at once is not promised to be safe.");
        LateRules one = Due.with("unique 0 0 late");
        LateRules other = Due.with("range 0 0 0 9");
        one.begin();
        one.put(0, 0, 5, 0, 0);
        is("another object has no such row", other.put(0, 0, 50, 0, 0), -5);
        is("nor its transaction", other.commit(), -3);
        is("nor its verdict", one.verdict(2), 0);
        is("nor its counts", one.count(4) * 10 + other.count(4), 1);
        other.sign('t' << 24 | 'r' << 16 | 'e' << 8 | 'e');
        is("nor its text", one.count(8), 0);

        says(NOT_PROMISED, "Nothing is promised beyond the answers and state changes described above, and nothing about an object after its 512th call.");
        is("the same calls, the same answers", manyAnswers(), manyAnswers());
    }

    private static String manyAnswers() {
        LateRules x = Due.with("unique 0 0 late", "refers 0 1 1 cascade late", "tree 2 2");
        StringBuilder all = new StringBuilder();
        x.begin();
        for (int i = 0; i < 60; i++) {
            all.append(x.put(i % 3, i * 7 % 30, i % 11, i % 5, i % 13)).append(' ');
        }
        return all.append(Due.queue(x)).toString();
    }
}
