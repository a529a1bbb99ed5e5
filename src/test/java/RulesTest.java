/** Promises 1 to 6: a new object, sign, end, rule, drop, later. */
final class RulesTest {
    private static final int NULL = Due.NULL;
    private static final int NOTHING = Due.NOTHING;

    public static void main(String[] args) {
        newObject();
        signsAndEnd();
        goodTexts();
        faults();
        faultGoesFirst();
        numbersOfRules();
        ruleHasToHold();
        dropped();
        laterOutside();
        laterWithin();
        laterFails();
        Due.finish("RulesTest");
    }

    private static void newObject() {
        LateRules x = new LateRules();
        Due.is("NONE", LateRules.NONE, -1);
        for (int what = 0; what < 10; what++) {
            Due.is("count(" + what + ") of a new object", x.count(what), 0);
        }
        for (int table = 0; table < 3; table++) {
            Due.is("rows of a new object", x.rows(table, 0), 0);
            Due.is("keys of a new object", x.rows(table, 1), 0);
        }
        Due.is("told of a new object", x.told(0, 0), NOTHING);
        Due.is("asked of a new object", x.asked(-1, 0), 0);
        Due.is("verdict of a new object", x.verdict(0), NOTHING);
        Due.is("words of a new object", x.verdict(2), 0);
        Due.is("all of a new object", x.all(0), 0);
    }

    private static void signsAndEnd() {
        LateRules x = new LateRules();
        for (int i = 1; i <= 20; i++) {
            Due.is("sign " + i, x.sign(0x20202020), 4 * i);
        }
        Due.is("sign beyond 80", x.sign(0x20202020), -1);
        Due.is("none came", x.count(8), 80);
        Due.is("end(81)", x.end(81), false);
        Due.is("end(-1)", x.end(-1), false);
        Due.is("end(MIN)", x.end(Integer.MIN_VALUE), false);
        Due.is("end(MAX)", x.end(Integer.MAX_VALUE), false);
        Due.is("still 80", x.count(8), 80);
        Due.is("end(80)", x.end(80), true);
        Due.is("end(77)", x.end(77), true);
        Due.is("81 would be too many", x.sign(0), -1);
        Due.is("end(76)", x.end(76), true);
        Due.is("80 are not", x.sign(0), 80);
        Due.is("end(0)", x.end(0), true);
        Due.is("end(1) of none", x.end(1), false);
        Due.is("empty", x.count(8), 0);
        x.sign('t' << 24 | 'r' << 16 | 'e' << 8 | 'e');
        x.sign(' ' << 24 | '1' << 16 | ' ' << 8 | '2');
        Due.is("the highest byte first", x.rule(), 0);
        Due.is("kind", x.told(0, 0), 5);
        Due.is("table", x.told(0, 1), 1);
        Due.is("column", x.told(0, 2), 2);
        Due.is("rule empties the text", x.count(8), 0);
        x.sign(0xC1808182);
        Due.is("signs above 127 begin no token", x.rule(), -1000);
    }

    private static String told(LateRules x, int rule) {
        StringBuilder all = new StringBuilder();
        for (int what = 0; what < 10; what++) {
            all.append(what == 0 ? "" : " ").append(x.told(rule, what));
        }
        return all.toString();
    }

    private static void good(String text, String due) {
        LateRules x = new LateRules();
        Due.is(text, Due.rule(x, text), 0);
        Due.is(text, told(x, 0), due);
    }

    private static void goodTexts() {
        good("unique 0 1", "0 0 1 -1 0 0 0 50 0 0");
        good("unique 2 2 late", "0 2 2 -1 0 0 1 50 0 0");
        good("unique 2 2 rank 0", "0 2 2 -1 0 0 0 0 0 0");
        good("unique 2 2 late rank 99", "0 2 2 -1 0 0 1 99 0 0");
        good("refers 1 0 2", "1 1 0 2 0 0 0 50 0 0");
        good("refers 1 0 2 cascade", "1 1 0 2 0 0 0 50 1 0");
        good("refers 1 0 1 clear", "1 1 0 1 0 0 0 50 2 0");
        good("refers 1 0 2 cascade late rank 7", "1 1 0 2 0 0 1 7 1 0");
        good("refers 1 0 2 late", "1 1 0 2 0 0 1 50 0 0");
        good("range 0 2 -9999 9999", "2 0 2 -1 -9999 9999 0 50 0 0");
        good("range 0 2 5 5 rank 3", "2 0 2 -1 5 5 0 3 0 0");
        good("sum 2 1 0 -7 12 late", "3 2 1 0 -7 12 1 50 0 0");
        good("sum 2 1 1 0 0", "3 2 1 1 0 0 0 50 0 0");
        good("count 0 1 2 1 3 late rank 10", "4 0 1 2 1 3 1 10 0 0");
        good("tree 1 2", "5 1 2 -1 0 0 0 50 0 0");
        good("   unique   0  1   ", "0 0 1 -1 0 0 0 50 0 0");
        good("unique0 1late rank5", "0 0 1 -1 0 0 1 5 0 0");
        good("range 0 0-5-3", "2 0 0 -1 -5 -3 0 50 0 0");
        good("range 0000 -0 0012 0099 rank -0", "2 0 0 -1 12 99 0 0 0 0");
    }

    private static void fault(String text, int place) {
        LateRules x = new LateRules();
        Due.is("'" + text + "'", Due.rule(x, text), -1000 - place);
        Due.is("no rule by '" + text + "'", x.count(0), 0);
        Due.is("the text is empty behind '" + text + "'", x.count(8), 0);
    }

    private static void faults() {
        fault("", 0);
        fault("    ", 4);
        fault("uniqu 0 1", 0);
        fault("uniquex 0 1", 0);
        fault("bnique 0 1", 0);
        fault("tree 0 0 latez", 9);
        fault("tree 0 0 alate", 9);
        fault("  unlike 0 1", 2);
        fault("0 unique 1", 0);
        fault("Unique 0 1", 0);
        fault("uniQue 0 1", 0);
        fault("late", 0);
        fault("unique", 6);
        fault("unique  ", 8);
        fault("unique 0", 8);
        fault("unique01", 8);
        fault("unique 3 1", 7);
        fault("unique -1 1", 7);
        fault("unique 0 3", 9);
        fault("unique 0 late", 9);
        fault("unique 0 1 2", 11);
        fault("unique 0 1 lately", 11);
        fault("unique 0 1 late late", 16);
        fault("unique 0 1 rank", 15);
        fault("unique 0 1 rank ", 16);
        fault("unique 0 1 rank 100", 16);
        fault("unique 0 1 rank -1", 16);
        fault("unique 0 1 rank late", 16);
        fault("unique 0 1 rank 5 late", 18);
        fault("unique 0 1 rank 5 6", 18);
        fault("unique 0 1 cascade", 11);
        fault("unique 0 1 clear", 11);
        fault("unique 0 1-", 10);
        fault("unique 0 1 - 1", 11);
        fault("unique 0 1,", 10);
        fault("unique 0\t1", 8);
        fault("unique - 1", 7);
        fault("unique --0 1", 7);
        fault("refers 0 1", 10);
        fault("refers 0 1 3", 11);
        fault("refers 0 1 1 cascade clear", 21);
        fault("refers 0 1 1 late cascade", 18);
        fault("refers 0 1 1 rank 1 clear", 20);
        fault("refers 0 1 cascade", 11);
        fault("range 0 1 5", 11);
        fault("range 0 1 5 4", 12);
        fault("range 0 1 -4 -5", 13);
        fault("range 0 1 5 late", 12);
        fault("range 0 1 12345 1", 10);
        fault("range 0 1 00001 1", 10);
        fault("range 0 1 1 12345", 12);
        fault("range 0 1 -12345 1", 10);
        fault("range 0 1 1 99999999999999999999", 12);
        fault("range 0 1 1 2 cascade", 14);
        fault("sum 0 1 3 0 1", 8);
        fault("sum 0 1 2 0", 11);
        fault("sum 0 1 2 3 2", 12);
        fault("sum 0 1 2 3 4 clear", 14);
        fault("count 0 1 3 0 1", 10);
        fault("count 0 1 2 2 1", 14);
        fault("count 0 1 2 2 3 x", 16);
        fault("tree 0", 6);
        fault("tree 0 0 0", 9);
        fault("tree 0 0 cascade", 9);
        fault("tree\u00000 0", 4);
        fault("tree 0 0 \u00e9", 9);
        fault("unique 0 1 late rank 5                                                         x", 79);
    }

    private static LateRules full() {
        LateRules x = new LateRules();
        for (int i = 0; i < 12; i++) {
            Due.is("rule " + i, Due.rule(x, "unique 0 0"), i);
        }
        return x;
    }

    private static void faultGoesFirst() {
        LateRules x = full();
        Due.is("a fault goes ahead of no room", Due.rule(x, "unique 0 4"), -1009);
        Due.is("no room", Due.rule(x, "unique 0 0"), -4);
        Due.is("still 12", x.count(0), 12);
        Due.is("the text is empty then", x.count(8), 0);
        x.begin();
        Due.is("a fault goes ahead of the time", Due.rule(x, "unique 4 0"), -1007);
        Due.is("the time goes ahead of no room", Due.rule(x, "unique 0 0"), -3);
        Due.is("the text is empty then", x.count(8), 0);
    }

    private static void numbersOfRules() {
        LateRules x = full();
        Due.is("drop(4)", x.drop(4), 11);
        Due.is("drop(2)", x.drop(2), 10);
        Due.is("the least free", Due.rule(x, "tree 1 1"), 2);
        Due.is("the next free", Due.rule(x, "tree 1 1"), 4);
        Due.is("no more", Due.rule(x, "tree 1 1"), -4);
        Due.is("count(0)", x.count(0), 12);
    }

    private static void doesNotHold(LateRules x, String text, int number, int subject) {
        Due.is(text, Due.rule(x, text), -5);
        Due.is(text + ": rule", x.verdict(0), number);
        Due.is(text + ": subject", x.verdict(1), subject);
        String kind = text.substring(0, text.indexOf(' '));
        Due.is(text, Due.words(x), "rule " + number + " " + kind + " " + subject);
        Due.is("no rule more by " + text, x.count(0), 1);
    }

    private static void ruleHasToHold() {
        LateRules x = Due.with("tree 2 2");
        x.put(0, 3, 7, -4, NULL);
        x.put(0, 5, 7, -4, 3);
        x.put(0, 9, 9, 9, 5);
        x.put(0, 10, 9, 8, 12);
        x.put(0, 11, NULL, NULL, 12);
        x.put(0, 12, NULL, NULL, 11);
        x.put(1, 9, 0, 0, 0);
        int asked = x.count(4);
        doesNotHold(x, "unique 0 0", 1, 7);
        doesNotHold(x, "unique 0 1 late", 1, -4);
        doesNotHold(x, "unique 0 0 late rank 1", 1, 7);
        doesNotHold(x, "refers 0 0 1", 1, 7);
        doesNotHold(x, "range 0 0 8 9", 1, 3);
        doesNotHold(x, "range 0 0 7 8", 1, 9);
        doesNotHold(x, "sum 0 0 1 -8 16", 1, 9);
        doesNotHold(x, "sum 0 0 1 -7 17", 1, 7);
        doesNotHold(x, "count 0 0 1 0 1", 1, 9);
        doesNotHold(x, "count 0 0 1 3 4", 1, 9);
        doesNotHold(x, "tree 0 2", 1, 11);
        Due.is("what rule() looks at is not counted as asked", x.count(4), asked);
        Due.is("sum that holds", Due.rule(x, "sum 0 0 1 -8 17"), 1);
        Due.is("count that holds", Due.rule(x, "count 0 0 1 2 2"), 2);
        Due.is("range that holds", Due.rule(x, "range 0 0 7 9"), 3);
        Due.is("no verdict then", x.verdict(0), NOTHING);
        Due.is("drop the first", x.drop(0), 3);
        Due.is("its number would be free", Due.rule(x, "unique 0 0"), -5);
        Due.is("the verdict tells the number it would have", x.verdict(0), 0);
        Due.is("a fault", Due.rule(x, "unique"), -1006);
        Due.is("takes the verdict", x.verdict(2), 0);
    }

    private static void dropped() {
        LateRules x = Due.with("unique 0 0", "range 0 1 0 5", "unique 0 2");
        Due.is("drop(3)", x.drop(3), -2);
        Due.is("drop(-1)", x.drop(-1), -2);
        Due.is("drop(12)", x.drop(12), -2);
        Due.is("drop(MAX)", x.drop(Integer.MAX_VALUE), -2);
        x.begin();
        Due.is("drop(1) within", x.drop(1), -3);
        Due.is("no such rule goes ahead of the time", x.drop(7), -2);
        x.abort();
        Due.is("count(0)", x.count(0), 3);
        Due.is("put against rule 1", x.put(0, 0, 0, 6, 0), -5);
        Due.is("drop(1)", x.drop(1), 2);
        Due.is("drop takes the verdict", x.verdict(0), NOTHING);
        Due.is("drop(1) again", x.drop(1), -2);
        Due.is("told(1)", x.told(1, 0), NOTHING);
        Due.is("told(2)", x.told(2, 0), 0);
        Due.is("put without rule 1", x.put(0, 0, 0, 6, 0), 2);
        x.put(0, 1, 0, 0, 0);
        Due.is("a verdict", x.verdict(0), 0);
        Due.is("a drop that is refused", x.drop(9), -2);
        Due.is("takes it", x.verdict(0), NOTHING);
    }

    private static void laterOutside() {
        LateRules x = Due.with("unique 0 0", "range 0 1 0 5 late");
        Due.is("later(2)", x.later(2, true), -2);
        Due.is("later(-1)", x.later(-1, false), -2);
        Due.is("later(12)", x.later(12, false), -2);
        Due.is("it is so", x.later(0, false), -4);
        Due.is("it is so", x.later(1, true), -4);
        Due.is("later(0, true)", x.later(0, true), 0);
        Due.is("told", x.told(0, 6), 1);
        Due.is("late rules", x.count(9), 2);
        Due.is("later(1, false)", x.later(1, false), 0);
        Due.is("told", x.told(1, 6), 0);
        Due.is("late rules", x.count(9), 1);
        x.put(0, 0, 3, 3, 3);
        Due.is("the late one is asked by the commit", Due.asked(x), "0:3:0");
    }

    private static void laterWithin() {
        LateRules x = Due.with("unique 0 0", "range 0 1 0 5", "unique 1 0 late");
        x.put(0, 0, 1, 1, 1);
        x.begin();
        x.put(0, 1, 2, 2, 2);
        x.set(0, 0, 0, 4);
        Due.is("nothing waits", Due.queue(x), "");
        Due.is("three come", x.later(0, true), 3);
        Due.is("the queue", Due.queue(x), "0:1:1:0:0 0:2:0:1:0 0:4:0:1:0");
        Due.is("they are counted", Due.since(x), "3 0 0 0 2 0 0");
        Due.is("one comes", x.later(1, true), 1);
        Due.is("the queue", Due.queue(x), "0:1:1:0:0 0:2:0:1:0 0:4:0:1:0 1:1:-2000:2:0");
        int asked = x.count(4);
        Due.is("three leave", x.later(0, false), 3);
        Due.is("the queue", Due.queue(x), "1:1:-2000:2:0");
        Due.is("they were asked", x.count(4), asked + 3);
        Due.is("leaving so is not counted", Due.since(x), "4 0 0 0 2 0 0");
        Due.is("abort leaves it late", x.abort(), 1);
        Due.is("told(0)", x.told(0, 6), 0);
        Due.is("told(1)", x.told(1, 6), 1);
    }

    private static void laterFails() {
        LateRules x = Due.with("unique 0 0 late", "range 0 1 0 5 late rank 1");
        x.begin();
        x.put(0, 0, 1, 1, 1);
        x.put(0, 1, 1, 7, 1);
        x.put(0, 2, 5, 7, 1);
        x.put(0, 3, -3, 9, 1);
        String queue = Due.queue(x);
        Due.is("the queue", queue,
            "1:0:-2000:1:0 1:1:-2000:7:1 1:2:-2000:7:1 1:3:-2000:9:1 0:-3:0:1:0 0:1:0:2:1 0:5:0:1:0");
        int asked = x.count(4);
        Due.is("one fails", x.later(0, false), -5);
        Due.is("the verdict", Due.words(x), "rule 0 unique 1");
        Due.is("asked up to it", x.count(4), asked + 2);
        Due.is("it stays late", x.told(0, 6), 1);
        Due.is("the queue stays", Due.queue(x), queue);
        Due.is("one fails", x.later(1, false), -5);
        Due.is("the verdict", Due.words(x), "rule 1 range 1");
        Due.is("asked up to it", x.count(4), asked + 4);
        Due.is("later that is refused otherwise", x.later(1, true), -4);
        Due.is("takes the verdict", x.verdict(0), NOTHING);
    }
}
