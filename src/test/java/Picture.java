/** All that can be asked of an object, in one text, so that two moments can be compared. */
final class Picture {
    private final LateRules x;
    private final StringBuilder text = new StringBuilder();

    private Picture(LateRules x) {
        this.x = x;
    }

    /** Without what a refused call may change: the verdict, how many questions were asked, acts that were refused. */
    static String of(LateRules x) {
        Picture picture = new Picture(x);
        picture.rows();
        picture.rules();
        picture.waiting();
        picture.counters();
        return picture.text.toString();
    }

    static String withVerdict(LateRules x) {
        return of(x) + "verdict " + x.verdict(0) + " " + x.verdict(1) + " " + Due.words(x)
            + " asked " + x.count(4) + " refused " + x.since(5);
    }

    private Picture add(String name) {
        text.append('\n').append(name);
        return this;
    }

    private Picture add(int number) {
        text.append(' ').append(number);
        return this;
    }

    private void rows() {
        for (int table = 0; table < 3; table++) {
            int keys = x.rows(table, 1);
            add("table " + table).add(x.rows(table, 0));
            for (int key = 0; key < 30; key++) {
                if ((keys >> key & 1) != 0) {
                    add("row " + key).add(x.value(table, key, 0)).add(x.value(table, key, 1)).add(x.value(table, key, 2));
                    add("leans").add(x.leans(table, key, 0)).add(x.leans(table, key, 1));
                }
            }
        }
    }

    private void rules() {
        for (int rule = 0; rule < 12; rule++) {
            int kind = x.told(rule, 0);
            if (kind != Due.NOTHING) {
                add("rule " + rule).add(kind);
                for (int what = 1; what < 10; what++) {
                    add(x.told(rule, what));
                }
                for (int subject = 0; subject < 3; subject++) {
                    add(x.question(rule, subject, 0)).add(x.question(rule, subject, 1));
                }
                add("depth").add(x.depth(rule, 0)).add(x.depth(rule, 1));
            }
        }
    }

    private void waiting() {
        add("queue " + Due.queue(x));
        add("asked " + Due.asked(x));
        add("groups").add(x.group(-1, 0));
        add("first").add(x.first(0)).add(x.first(1)).add(x.first(2)).add(x.first(3));
        add("all").add(x.all(0)).add(x.all(1)).add(x.all(2));
        for (int mark = 0; mark < x.since(6); mark++) {
            add("fresh").add(x.fresh(mark, 0)).add(x.fresh(mark, 1));
        }
    }

    private void counters() {
        add("since");
        for (int what = 0; what < 7; what++) {
            if (what != 5) {
                add(x.since(what));
            }
        }
        add("count");
        for (int what = 0; what < 10; what++) {
            if (what != 4) {
                add(x.count(what));
            }
        }
    }
}
