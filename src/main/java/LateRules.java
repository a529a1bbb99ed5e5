import java.util.NoSuchElementException;

/**
 * Tables under rules that may be asked late. An act is first done on paper (a second set of rows), the
 * questions that it touches are found by comparing the two, and only what nothing refuses is taken over.
 */
public final class LateRules {
    public static final int NONE = -1;

    private static final int NOTHING = Integer.MIN_VALUE;

    private static final int TABLES = 3;
    private static final int KEYS = 30;
    private static final int COLUMNS = 3;
    private static final int LEAST_VALUE = -99;
    private static final int MOST_VALUE = 99;
    private static final int NULL = -1000;
    private static final int RULES = 12;
    private static final int MARKS = 8;

    /** The state of a question about a row that is not there. */
    private static final int ABSENT = -2000;
    /** The state of a question about the sum of no rows. */
    private static final int NO_ROWS = 100000;

    private static final int CANNOT_BE = -1;
    private static final int NO_SUCH = -2;
    private static final int NOT_THE_TIME = -3;
    private static final int ALREADY = -4;
    private static final int FAILED = -5;
    private static final int FAULT = -1000;

    private static final int UNIQUE = 0;
    private static final int REFERS = 1;
    private static final int RANGE = 2;
    private static final int SUM = 3;
    private static final int COUNT = 4;
    private static final int TREE = 5;
    private static final int KINDS = 6;

    private static final int STAY = 0;
    private static final int CASCADE = 1;
    private static final int CLEAR = 2;

    private static final int ANY_RULES = 0;
    private static final int LATE_RULES = 1;
    private static final int PROMPT_RULES = 2;

    /** Places in sinceBegin, numbered as since() tells them. */
    private static final int CAME = 0;
    private static final int LEFT = 1;
    private static final int LEFT_BY_BACK = 2;
    private static final int CAME_BY_BACK = 3;
    private static final int ACTS_DONE = 4;
    private static final int ACTS_REFUSED = 5;
    private static final int SINCE_KINDS = 6;

    /** Places in soFar. */
    private static final int ASKED = 0;
    private static final int COMMITS = 1;
    private static final int COMMITS_BACK = 2;
    private static final int ABORTS = 3;
    private static final int SO_FAR_KINDS = 4;

    private final Text text;
    private final Reader reader;
    private final Book book;
    private final Rows now;
    private final Rows atBegin;
    private final Rows paper;
    private final Rows noRows;
    private final Rows[] marks;
    private final Questions waiting;
    private final Questions found;
    private final Questions lastAsked;
    private final Comparison comparison;
    private final Followers followers;
    private final Leaners leaners;
    private final Verdict lastVerdict;
    private final int[] sinceBegin;
    private final int[] soFar;
    private int markCount;
    private boolean open;

    public LateRules() {
        text = new Text();
        reader = new Reader(text);
        book = new Book();
        now = new Rows();
        atBegin = new Rows();
        paper = new Rows();
        noRows = new Rows();
        marks = new Rows[MARKS];
        for (int i = 0; i < MARKS; i++) {
            marks[i] = new Rows();
        }
        waiting = new Questions();
        found = new Questions();
        lastAsked = new Questions();
        comparison = new Comparison();
        followers = new Followers();
        leaners = new Leaners();
        lastVerdict = new Verdict();
        sinceBegin = new int[SINCE_KINDS];
        soFar = new int[SO_FAR_KINDS];
    }

    // ---- rules

    public int sign(int v) {
        return text.addFour(v) ? text.length() : NONE;
    }

    public boolean end(int n) {
        return text.shorten(n);
    }

    public int rule() {
        lastVerdict.clear();
        Rule told = reader.read();
        text.shorten(0);
        if (told == null) {
            return FAULT - reader.faultPlace();
        }
        if (open) {
            return NOT_THE_TIME;
        }
        int number = book.leastFree();
        if (number == NONE) {
            return ALREADY;
        }
        told.number = number;
        int bad = firstFailingOf(told);
        if (bad != NONE) {
            lastVerdict.tell(number, wordOf(told.kind), found.subject(bad));
            return FAILED;
        }
        book.enter(told);
        return number;
    }

    public int drop(int rule) {
        lastVerdict.clear();
        if (book.get(rule) == null) {
            return NO_SUCH;
        }
        if (open) {
            return NOT_THE_TIME;
        }
        book.strike(rule);
        return book.size();
    }

    public int later(int rule, boolean late) {
        lastVerdict.clear();
        Rule told = book.get(rule);
        if (told == null) {
            return NO_SUCH;
        }
        if (told.late == late) {
            return ALREADY;
        }
        if (late) {
            return becomeLate(told);
        }
        return becomePrompt(told);
    }

    // ---- acts

    public int put(int table, int key, int a, int b, int c) {
        lastVerdict.clear();
        if (!isTable(table) || !isKey(key) || !isValue(a) || !isValue(b) || !isValue(c)) {
            return refuseAct(CANNOT_BE);
        }
        if (now.has(table, key)) {
            return refuseAct(ALREADY);
        }
        paper.copy(now);
        paper.add(table, key);
        paper.change(table, key, 0, a);
        paper.change(table, key, 1, b);
        paper.change(table, key, 2, c);
        return actAsOnPaper();
    }

    public int set(int table, int key, int column, int v) {
        lastVerdict.clear();
        int code = setOnPaper(table, key, column, v);
        return code < 0 ? refuseAct(code) : actAsOnPaper();
    }

    public int cut(int table, int key) {
        lastVerdict.clear();
        if (!isTable(table) || !isKey(key)) {
            return refuseAct(CANNOT_BE);
        }
        if (!now.has(table, key)) {
            return refuseAct(NO_SUCH);
        }
        paper.copy(now);
        followers.cutRow(paper, book, table, key);
        return actAsOnPaper();
    }

    public int rekey(int table, int key, int to) {
        lastVerdict.clear();
        if (!isTable(table) || !isKey(key) || !isKey(to)) {
            return refuseAct(CANNOT_BE);
        }
        if (!now.has(table, key)) {
            return refuseAct(NO_SUCH);
        }
        if (now.has(table, to)) {
            return refuseAct(ALREADY);
        }
        paper.copy(now);
        followers.moveRow(paper, book, table, key, to);
        return actAsOnPaper();
    }

    // ---- transactions

    public int begin() {
        if (open) {
            return NOT_THE_TIME;
        }
        open = true;
        atBegin.copy(now);
        for (int i = 0; i < SINCE_KINDS; i++) {
            sinceBegin[i] = 0;
        }
        return now.total();
    }

    public int commit() {
        lastVerdict.clear();
        if (!open) {
            return NOT_THE_TIME;
        }
        boolean holds = askToCommit(waiting);
        if (!holds) {
            now.copy(atBegin);
        }
        close();
        return holds ? lastAsked.size() : FAILED;
    }

    public int abort() {
        if (!open) {
            return NOT_THE_TIME;
        }
        int had = waiting.size();
        now.copy(atBegin);
        close();
        soFar[ABORTS]++;
        return had;
    }

    public int mark() {
        if (!open) {
            return NOT_THE_TIME;
        }
        if (markCount >= MARKS) {
            return ALREADY;
        }
        int number = markCount;
        markCount++;
        Rows kept = rowsAtMark(number);
        if (kept != null) {
            kept.copy(now);
        }
        return number;
    }

    public int back(int mark) {
        lastVerdict.clear();
        if (!open) {
            return NOT_THE_TIME;
        }
        Rows goal = rowsAtMark(mark);
        if (goal == null) {
            return NO_SUCH;
        }
        gather(found, noRows, goal, PROMPT_RULES);
        int bad = found.firstFailing();
        if (bad != NONE) {
            tellVerdict(found, bad);
            return FAILED;
        }
        gather(found, now, goal, LATE_RULES);
        tally(true);
        now.copy(goal);
        markCount = mark + 1;
        gather(waiting, atBegin, now, LATE_RULES);
        return waiting.size();
    }

    // ---- what there is

    public int value(int table, int key, int column) throws NoSuchElementException {
        if (!now.has(table, key) || !isColumn(column)) {
            throw new NoSuchElementException("no such row or column");
        }
        return now.cell(table, key, column);
    }

    public int rows(int table, int what) {
        if (!isTable(table)) {
            return NONE;
        }
        switch (what) {
            case 0: return now.size(table);
            case 1: return now.keyBits(table);
            default: return NONE;
        }
    }

    public int told(int rule, int what) {
        Rule asked = book.get(rule);
        if (asked == null) {
            return NOTHING;
        }
        switch (what) {
            case 0: return asked.kind;
            case 1: return asked.table;
            case 2: return asked.column;
            case 3: return asked.other;
            case 4: return asked.low;
            case 5: return asked.high;
            case 6: return asked.late ? 1 : 0;
            case 7: return asked.rank;
            case 8: return asked.action;
            case 9: return waiting.ofRule(rule);
            default: return NOTHING;
        }
    }

    public int queue(int i, int what) throws NoSuchElementException {
        if (i < 0 || i >= waiting.size()) {
            throw new NoSuchElementException("no such question in the queue");
        }
        switch (what) {
            case 0: return waiting.number(i);
            case 1: return waiting.subject(i);
            case 2: return waiting.before(i);
            case 3: return waiting.after(i);
            case 4: return waiting.fails(i) ? 1 : 0;
            default: return NOTHING;
        }
    }

    public int group(int i, int what) {
        if (what != 0 && what != 1) {
            return NONE;
        }
        if (i == NONE) {
            return waiting.groups();
        }
        int start = waiting.groupStart(i);
        if (start == NONE) {
            return NONE;
        }
        int number = waiting.number(start);
        return what == 0 ? number : waiting.ofRule(number);
    }

    public int asked(int i, int what) {
        if (what < 0 || what > 2) {
            return NONE;
        }
        if (i == NONE) {
            return lastAsked.size();
        }
        if (i < 0 || i >= lastAsked.size()) {
            return NONE;
        }
        switch (what) {
            case 0: return lastAsked.number(i);
            case 1: return lastAsked.subject(i);
            default: return lastAsked.fails(i) ? 1 : 0;
        }
    }

    public int fresh(int mark, int what) {
        Rows kept = rowsAtMark(mark);
        if (kept == null) {
            return NONE;
        }
        switch (what) {
            case 0: return changedSince(kept);
            case 1: return settledSince(kept);
            default: return NONE;
        }
    }

    public int question(int rule, int subject, int what) {
        Rule asked = book.get(rule);
        if (asked == null || !asked.isSubject(subject)) {
            return NOTHING;
        }
        int state = asked.state(now, subject);
        switch (what) {
            case 0: return state;
            case 1: return asked.fails(now, subject, state) ? 1 : 0;
            default: return NOTHING;
        }
    }

    public int first(int what) {
        if (!open) {
            return NONE;
        }
        int place = waiting.firstFailing();
        switch (what) {
            case 0: return place == NONE ? NONE : waiting.number(place);
            case 1: return place == NONE ? NONE : waiting.subject(place);
            case 2: return place;
            case 3: return waiting.failing();
            default: return NOTHING;
        }
    }

    public int all(int what) {
        if (what < 0 || what > 2) {
            return NOTHING;
        }
        gather(found, noRows, now, ANY_RULES);
        if (what == 0) {
            return found.failing();
        }
        int place = found.firstFailing();
        if (place == NONE) {
            return NONE;
        }
        return what == 1 ? found.number(place) : found.subject(place);
    }

    public int verdict(int what) {
        if (what == 2) {
            return lastVerdict.signs();
        }
        if (!lastVerdict.isTold()) {
            return NOTHING;
        }
        switch (what) {
            case 0: return lastVerdict.number();
            case 1: return lastVerdict.subject();
            default: return NOTHING;
        }
    }

    public int letter(int i) {
        return lastVerdict.signAt(i);
    }

    // ---- on paper

    public int wouldSet(int table, int key, int column, int v) {
        int code = setOnPaper(table, key, column, v);
        return code < 0 ? code : answerOnPaper();
    }

    public int wouldCut(int table, int key, int what) {
        if (!now.has(table, key)) {
            return NONE;
        }
        paper.copy(now);
        followers.cutRow(paper, book, table, key);
        switch (what) {
            case 0: return now.total() - paper.total();
            case 1: return paper.newNulls(now);
            case 2: return answerOnPaper();
            default: return NONE;
        }
    }

    public int leans(int table, int key, int what) {
        if (!now.has(table, key)) {
            return NONE;
        }
        switch (what) {
            case 0: return leaners.straight(now, book, table, key);
            case 1: return leaners.straightOrNot(now, book, table, key);
            default: return NONE;
        }
    }

    public int least(int table, int key, int column) {
        if (!now.has(table, key) || !isColumn(column)) {
            return NOTHING;
        }
        int is = now.cell(table, key, column);
        paper.copy(now);
        for (int v = LEAST_VALUE; v <= MOST_VALUE; v++) {
            paper.change(table, key, column, v);
            if (v != is && holdsOnPaper(table, key)) {
                return v;
            }
        }
        return NOTHING;
    }

    public int depth(int rule, int key) {
        Rule asked = book.get(rule);
        if (asked == null || asked.kind != TREE || !now.has(asked.table, key)) {
            return NONE;
        }
        int at = key;
        for (int steps = 0; steps <= KEYS; steps++) {
            int above = now.cell(asked.table, at, asked.column);
            if (!now.has(asked.table, above)) {
                return steps;
            }
            at = above;
        }
        return -2;
    }

    public int since(int what) {
        if (!open) {
            return NONE;
        }
        if (what >= 0 && what < SINCE_KINDS) {
            return sinceBegin[what];
        }
        return what == SINCE_KINDS ? markCount : NONE;
    }

    public int count(int what) {
        switch (what) {
            case 0: return book.size();
            case 1: return now.total();
            case 2: return waiting.size();
            case 3: return open ? 1 : 0;
            case 4: return soFar[ASKED];
            case 5: return soFar[COMMITS];
            case 6: return soFar[COMMITS_BACK];
            case 7: return soFar[ABORTS];
            case 8: return text.length();
            case 9: return book.lateOnes();
            default: return NONE;
        }
    }

    // ---- what the calls share

    private static boolean isTable(int table) {
        return table >= 0 && table < TABLES;
    }

    private static boolean isKey(int key) {
        return key >= 0 && key < KEYS;
    }

    private static boolean isColumn(int column) {
        return column >= 0 && column < COLUMNS;
    }

    private static boolean isSubjectValue(int v) {
        return v >= LEAST_VALUE && v <= MOST_VALUE;
    }

    private static boolean isValue(int v) {
        return v == NULL || isSubjectValue(v);
    }

    private static String wordOf(int kind) {
        switch (kind) {
            case UNIQUE: return "unique";
            case REFERS: return "refers";
            case RANGE: return "range";
            case SUM: return "sum";
            case COUNT: return "count";
            default: return "tree";
        }
    }

    private Rows rowsAtMark(int mark) {
        return mark >= 0 && mark < markCount && mark < MARKS ? marks[mark] : null;
    }

    /** All questions, in ORDER, of which the state differs between two sets of rows; they fail or not by the second. */
    private void gather(Questions into, Rows from, Rows to, int which) {
        into.clear();
        comparison.ofAllRows(from, to);
        for (int i = 0; i < book.size(); i++) {
            Rule rule = book.inOrder(i);
            if (rule != null && rule.isAmong(which)) {
                comparison.addQuestions(rule, from, to, into);
            }
        }
    }

    private void close() {
        open = false;
        markCount = 0;
        waiting.clear();
    }

    private void tellVerdict(Questions list, int i) {
        Rule rule = book.get(list.number(i));
        if (rule != null) {
            lastVerdict.tell(rule.number, wordOf(rule.kind), list.subject(i));
        }
    }

    /** Without rows nothing fails, so what fails of a rule is among what differs from having none. */
    private int firstFailingOf(Rule rule) {
        found.clear();
        comparison.ofAllRows(noRows, now);
        comparison.addQuestions(rule, noRows, now, found);
        return found.firstFailing();
    }

    private int becomeLate(Rule rule) {
        rule.late = true;
        if (!open) {
            return 0;
        }
        gather(waiting, atBegin, now, LATE_RULES);
        int came = waiting.ofRule(rule.number);
        sinceBegin[CAME] += came;
        return came;
    }

    private int becomePrompt(Rule rule) {
        for (int i = 0; i < waiting.size(); i++) {
            if (waiting.number(i) != rule.number) {
                continue;
            }
            soFar[ASKED]++;
            if (waiting.fails(i)) {
                tellVerdict(waiting, i);
                return FAILED;
            }
        }
        rule.late = false;
        if (!open) {
            return 0;
        }
        int left = waiting.ofRule(rule.number);
        gather(waiting, atBegin, now, LATE_RULES);
        return left;
    }

    /** 0 if the paper has the rows with that value changed, else why not. */
    private int setOnPaper(int table, int key, int column, int v) {
        if (!isTable(table) || !isKey(key) || !isColumn(column) || !isValue(v)) {
            return CANNOT_BE;
        }
        if (!now.has(table, key)) {
            return NO_SUCH;
        }
        if (now.cell(table, key, column) == v) {
            return ALREADY;
        }
        paper.copy(now);
        paper.change(table, key, column, v);
        return 0;
    }

    private int refuseAct(int code) {
        if (open) {
            sinceBegin[ACTS_REFUSED]++;
        }
        return code;
    }

    /** The rows become what the paper has, unless a question refuses it. */
    private int actAsOnPaper() {
        gather(found, now, paper, ANY_RULES);
        if (!askAtOnce()) {
            return refuseAct(FAILED);
        }
        if (!open) {
            if (!askToCommit(found)) {
                return FAILED;
            }
            now.copy(paper);
            return found.size();
        }
        tally(false);
        sinceBegin[ACTS_DONE]++;
        now.copy(paper);
        gather(waiting, atBegin, now, LATE_RULES);
        return found.size();
    }

    private boolean askAtOnce() {
        for (int i = 0; i < found.size(); i++) {
            if (found.isLate(i)) {
                continue;
            }
            soFar[ASKED]++;
            if (found.fails(i)) {
                tellVerdict(found, i);
                return false;
            }
        }
        return true;
    }

    /** For an act by itself the list has prompt questions too; those were asked behind the act. */
    private boolean askToCommit(Questions list) {
        lastAsked.clear();
        for (int i = 0; i < list.size(); i++) {
            if (!list.isLate(i)) {
                continue;
            }
            soFar[ASKED]++;
            lastAsked.take(list, i);
            if (list.fails(i)) {
                tellVerdict(list, i);
                soFar[COMMITS_BACK]++;
                return false;
            }
        }
        soFar[COMMITS]++;
        return true;
    }

    /** Counts which of the found questions come into the queue and which leave it. */
    private void tally(boolean byBack) {
        for (int i = 0; i < found.size(); i++) {
            Rule rule = book.get(found.number(i));
            if (rule == null || !rule.late) {
                continue;
            }
            int then = rule.state(atBegin, found.subject(i));
            if (found.before(i) == then) {
                sinceBegin[byBack ? CAME_BY_BACK : CAME]++;
            } else if (found.after(i) == then) {
                sinceBegin[byBack ? LEFT_BY_BACK : LEFT]++;
            }
        }
    }

    private int changedSince(Rows kept) {
        int changed = 0;
        for (int i = 0; i < waiting.size(); i++) {
            Rule rule = book.get(waiting.number(i));
            if (rule != null && rule.state(kept, waiting.subject(i)) != waiting.after(i)) {
                changed++;
            }
        }
        return changed;
    }

    private int settledSince(Rows kept) {
        gather(found, atBegin, kept, LATE_RULES);
        int settled = 0;
        for (int i = 0; i < found.size(); i++) {
            Rule rule = book.get(found.number(i));
            if (rule != null && rule.state(now, found.subject(i)) == found.before(i)) {
                settled++;
            }
        }
        return settled;
    }

    /** What the act that is on paper would tell; outside of a transaction late rules would be asked as well. */
    private int answerOnPaper() {
        gather(found, now, paper, ANY_RULES);
        for (int i = 0; i < found.size(); i++) {
            if (found.fails(i) && (!open || !found.isLate(i))) {
                return FAILED;
            }
        }
        return found.size();
    }

    private boolean holdsOnPaper(int table, int key) {
        found.clear();
        comparison.ofOneRow(table, key);
        for (int i = 0; i < book.size(); i++) {
            Rule rule = book.inOrder(i);
            if (rule != null) {
                comparison.addQuestions(rule, now, paper, found);
            }
            if (found.firstFailing() != NONE) {
                return false;
            }
        }
        return true;
    }

    /** The signs of which a rule is made. */
    static final class Text {
        private static final int MOST = 80;

        private final char[] signs = new char[MOST];
        private int length;

        int length() {
            return length;
        }

        char signAt(int i) {
            return i >= 0 && i < length && i < MOST ? signs[i] : (char) 0;
        }

        boolean addFour(int v) {
            if (length + 4 > MOST) {
                return false;
            }
            for (int shift = 24; shift >= 0; shift -= 8) {
                if (length >= 0 && length < MOST) {
                    signs[length] = (char) ((v >>> shift) & 255);
                    length++;
                }
            }
            return true;
        }

        boolean shorten(int n) {
            if (n < 0 || n > length) {
                return false;
            }
            length = n;
            return true;
        }
    }

    /**
     * Reads a rule from the text. Whatever is wrong, the fault is at the token that is being looked at, so one
     * flag is enough: once broken, nothing is taken any more.
     */
    static final class Reader {
        private static final int END = 0;
        private static final int WORD = 1;
        private static final int NUMBER = 2;
        private static final int WRONG = 3;
        private static final int MOST_DIGITS = 4;
        private static final int MOST_NUMBER = 9999;
        private static final int PLAIN_RANK = 50;
        private static final int MOST_RANK = 99;

        private final Text text;
        private int sort;
        private int start;
        private int stop;
        private int number;
        private boolean broken;

        Reader(Text text) {
            this.text = text;
        }

        /** The rule that the text tells, without a number; null if there is a fault. */
        Rule read() {
            broken = false;
            stop = 0;
            advance();
            Rule rule = new Rule(takeKind());
            rule.table = takeNumber(0, TABLES - 1);
            rule.column = takeNumber(0, COLUMNS - 1);
            if (rule.kind == REFERS || rule.kind == SUM || rule.kind == COUNT) {
                rule.other = takeNumber(0, 2);
            }
            if (rule.kind == RANGE || rule.kind == SUM || rule.kind == COUNT) {
                rule.low = takeNumber(-MOST_NUMBER, MOST_NUMBER);
                rule.high = takeNumber(rule.low, MOST_NUMBER);
            }
            if (rule.kind == REFERS) {
                rule.action = takeAction();
            }
            rule.late = takeWord("late");
            rule.rank = takeWord("rank") ? takeNumber(0, MOST_RANK) : PLAIN_RANK;
            if (sort != END) {
                broken = true;
            }
            return broken ? null : rule;
        }

        /** Where the token begins at which the reading broke off; the text's length, if there was none. */
        int faultPlace() {
            return start;
        }

        private int takeKind() {
            for (int kind = 0; kind < KINDS; kind++) {
                if (takeWord(wordOf(kind))) {
                    return kind;
                }
            }
            broken = true;
            return UNIQUE;
        }

        private int takeAction() {
            if (takeWord("cascade")) {
                return CASCADE;
            }
            return takeWord("clear") ? CLEAR : STAY;
        }

        private int takeNumber(int low, int high) {
            if (broken || sort != NUMBER || number < low || number > high) {
                broken = true;
                return 0;
            }
            int taken = number;
            advance();
            return taken;
        }

        private boolean takeWord(String word) {
            if (broken || sort != WORD || stop - start != word.length()) {
                return false;
            }
            for (int i = 0; i < word.length(); i++) {
                if (text.signAt(start + i) != word.charAt(i)) {
                    return false;
                }
            }
            advance();
            return true;
        }

        private void advance() {
            start = stop;
            while (start < text.length() && text.signAt(start) == ' ') {
                start++;
            }
            stop = start;
            if (start >= text.length()) {
                sort = END;
            } else if (isLetter(text.signAt(start))) {
                advanceWord();
            } else {
                advanceNumber();
            }
        }

        private void advanceWord() {
            sort = WORD;
            while (stop < text.length() && isLetter(text.signAt(stop))) {
                stop++;
            }
        }

        private void advanceNumber() {
            boolean negative = text.signAt(start) == '-';
            int size = 0;
            int digits = 0;
            stop = negative ? start + 1 : start;
            while (stop < text.length() && isDigit(text.signAt(stop))) {
                if (digits < MOST_DIGITS) {
                    size = size * 10 + (text.signAt(stop) - '0');
                }
                digits++;
                stop++;
            }
            sort = digits >= 1 && digits <= MOST_DIGITS ? NUMBER : WRONG;
            number = negative ? -size : size;
        }

        private static boolean isLetter(char sign) {
            return sign >= 'a' && sign <= 'z';
        }

        private static boolean isDigit(char sign) {
            return sign >= '0' && sign <= '9';
        }
    }

    /** One rule; a question is a rule with a subject. */
    static final class Rule {
        final int kind;
        int number = NONE;
        int table;
        int column;
        /** U or D, as the kind has it. */
        int other = NONE;
        int low;
        int high;
        int action = STAY;
        int rank;
        boolean late;

        Rule(int kind) {
            this.kind = kind;
        }

        boolean isAmong(int which) {
            return which == ANY_RULES || late == (which == LATE_RULES);
        }

        boolean isAboutKeys() {
            return kind == RANGE || kind == COUNT || kind == TREE;
        }

        /** Whether rows of another table (or the same) answer for the subjects by their keys. */
        boolean looksAtKeys() {
            return kind == REFERS || kind == COUNT;
        }

        boolean isSubject(int subject) {
            return isAboutKeys() ? isKey(subject) : isSubjectValue(subject);
        }

        /** Whether rows that refer to the table by this rule go, or change, with those they refer to. */
        boolean follows(int into) {
            return kind == REFERS && other == into && action != STAY;
        }

        int state(Rows rows, int subject) {
            switch (kind) {
                case UNIQUE:
                    return rows.having(table, column, subject);
                case REFERS:
                case COUNT:
                    return 2 * rows.having(table, column, subject) + (rows.has(other, subject) ? 1 : 0);
                case SUM:
                    return rows.sumOf(table, column, subject, other);
                default:
                    return rows.cell(table, subject, column);
            }
        }

        /** Whether the rule does not hold of the subject, of which the state is known. */
        boolean fails(Rows rows, int subject, int state) {
            switch (kind) {
                case UNIQUE:
                    return state > 1;
                case REFERS:
                    return state > 1 && (state & 1) == 0;
                case RANGE:
                    return state != ABSENT && state != NULL && isOutside(state);
                case SUM:
                    return state != NO_ROWS && isOutside(state);
                case COUNT:
                    return (state & 1) == 1 && isOutside(state >> 1);
                default:
                    return isOnRing(rows, subject);
            }
        }

        private boolean isOutside(int amount) {
            return amount < low || amount > high;
        }

        private boolean isOnRing(Rows rows, int key) {
            int at = rows.cell(table, key, column);
            for (int steps = 0; steps < KEYS && rows.has(table, at); steps++) {
                if (at == key) {
                    return true;
                }
                at = rows.cell(table, at, column);
            }
            return false;
        }
    }

    /** The rules by number and in ORDER. */
    static final class Book {
        private final Rule[] byNumber = new Rule[RULES];
        private final Rule[] ordered = new Rule[RULES];
        private int size;

        int size() {
            return size;
        }

        Rule get(int number) {
            return number >= 0 && number < RULES ? byNumber[number] : null;
        }

        Rule inOrder(int i) {
            return i >= 0 && i < size && i < RULES ? ordered[i] : null;
        }

        int leastFree() {
            for (int number = 0; number < RULES; number++) {
                if (byNumber[number] == null) {
                    return number;
                }
            }
            return NONE;
        }

        int lateOnes() {
            int late = 0;
            for (int number = 0; number < RULES; number++) {
                Rule rule = byNumber[number];
                if (rule != null && rule.late) {
                    late++;
                }
            }
            return late;
        }

        void enter(Rule rule) {
            if (rule.number >= 0 && rule.number < RULES) {
                byNumber[rule.number] = rule;
                arrange();
            }
        }

        void strike(int number) {
            if (number >= 0 && number < RULES) {
                byNumber[number] = null;
                arrange();
            }
        }

        private void arrange() {
            size = 0;
            for (int number = 0; number < RULES; number++) {
                Rule rule = byNumber[number];
                if (rule != null) {
                    insert(rule);
                }
            }
        }

        /** Rules come here by number, so one goes ahead of those of a higher rank alone. */
        private void insert(Rule rule) {
            int at = size;
            while (at > 0 && at < RULES) {
                Rule ahead = ordered[at - 1];
                if (ahead == null || ahead.rank <= rule.rank) {
                    break;
                }
                ordered[at] = ahead;
                at--;
            }
            if (at >= 0 && at < RULES) {
                ordered[at] = rule;
                size++;
            }
        }
    }

    /** All rows of all tables. A row that is not there has ABSENT in each column, so that states can be compared. */
    static final class Rows {
        private final int[] cells = new int[TABLES * COLUMNS * KEYS];
        private final int[] bits = new int[TABLES];

        Rows() {
            for (int i = 0; i < cells.length; i++) {
                cells[i] = ABSENT;
            }
        }

        void copy(Rows other) {
            System.arraycopy(other.cells, 0, cells, 0, TABLES * COLUMNS * KEYS);
            System.arraycopy(other.bits, 0, bits, 0, TABLES);
        }

        boolean has(int table, int key) {
            return isTable(table) && isKey(key) && (bits[table] >> key & 1) != 0;
        }

        int cell(int table, int key, int column) {
            return isTable(table) && isKey(key) && isColumn(column) ? cells[place(table, column) + key] : ABSENT;
        }

        int keyBits(int table) {
            return isTable(table) ? bits[table] : 0;
        }

        int size(int table) {
            return Integer.bitCount(keyBits(table));
        }

        int total() {
            int total = 0;
            for (int table = 0; table < TABLES; table++) {
                total += size(table);
            }
            return total;
        }

        void add(int table, int key) {
            if (isTable(table) && isKey(key)) {
                bits[table] |= 1 << key;
                fill(table, key, NULL);
            }
        }

        void remove(int table, int key) {
            if (isTable(table) && isKey(key)) {
                bits[table] &= ~(1 << key);
                fill(table, key, ABSENT);
            }
        }

        void change(int table, int key, int column, int v) {
            if (has(table, key) && isColumn(column)) {
                cells[place(table, column) + key] = v;
            }
        }

        void move(int table, int key, int to) {
            if (!has(table, key) || !isKey(to) || to == key) {
                return;
            }
            add(table, to);
            for (int column = 0; column < COLUMNS; column++) {
                change(table, to, column, cell(table, key, column));
            }
            remove(table, key);
        }

        /** How many rows of a table have a value in a column. */
        int having(int table, int column, int v) {
            if (!isTable(table) || !isColumn(column)) {
                return 0;
            }
            int from = place(table, column);
            int many = 0;
            for (int key = 0; key < KEYS; key++) {
                if (cells[from + key] == v) {
                    many++;
                }
            }
            return many;
        }

        /** The sum in one column of those rows that have a value in another; NO_ROWS without such rows. */
        int sumOf(int table, int column, int v, int summed) {
            if (!isTable(table) || !isColumn(column) || !isColumn(summed)) {
                return NO_ROWS;
            }
            int from = place(table, column);
            int sumFrom = place(table, summed);
            int sum = 0;
            boolean any = false;
            for (int key = 0; key < KEYS; key++) {
                if (cells[from + key] == v) {
                    any = true;
                    sum += cells[sumFrom + key] == NULL ? 0 : cells[sumFrom + key];
                }
            }
            return any ? sum : NO_ROWS;
        }

        /** How many values are null here, and were not before, in rows that are still here. */
        int newNulls(Rows before) {
            int many = 0;
            for (int i = 0; i < TABLES * COLUMNS * KEYS; i++) {
                if (cells[i] == NULL && before.cells[i] != NULL) {
                    many++;
                }
            }
            return many;
        }

        private void fill(int table, int key, int v) {
            for (int column = 0; column < COLUMNS; column++) {
                cells[place(table, column) + key] = v;
            }
        }

        /** Where a column begins; the column's keys stand together, since most loops go over them. */
        private static int place(int table, int column) {
            return (table * COLUMNS + column) * KEYS;
        }
    }

    /** A list of questions in ORDER, with the two states that were compared and whether each fails by the second. */
    static final class Questions {
        private static final int MOST = RULES * Comparison.MOST_SUBJECTS;

        private final int[] numbers = new int[MOST];
        private final int[] subjects = new int[MOST];
        private final int[] befores = new int[MOST];
        private final int[] afters = new int[MOST];
        private final boolean[] lates = new boolean[MOST];
        private final boolean[] failures = new boolean[MOST];
        private int size;

        int size() {
            return size;
        }

        void clear() {
            size = 0;
        }

        void add(Rule rule, int subject, int before, int after, boolean fails) {
            if (size >= 0 && size < MOST) {
                numbers[size] = rule.number;
                subjects[size] = subject;
                befores[size] = before;
                afters[size] = after;
                lates[size] = rule.late;
                failures[size] = fails;
                size++;
            }
        }

        /** Adds what another list has at a place. */
        void take(Questions from, int i) {
            if (size >= 0 && size < MOST && from.isInside(i)) {
                numbers[size] = from.numbers[i];
                subjects[size] = from.subjects[i];
                befores[size] = from.befores[i];
                afters[size] = from.afters[i];
                lates[size] = from.lates[i];
                failures[size] = from.failures[i];
                size++;
            }
        }

        int number(int i) {
            return isInside(i) ? numbers[i] : NONE;
        }

        int subject(int i) {
            return isInside(i) ? subjects[i] : NONE;
        }

        int before(int i) {
            return isInside(i) ? befores[i] : ABSENT;
        }

        int after(int i) {
            return isInside(i) ? afters[i] : ABSENT;
        }

        boolean isLate(int i) {
            return isInside(i) && lates[i];
        }

        boolean fails(int i) {
            return isInside(i) && failures[i];
        }

        int firstFailing() {
            for (int i = 0; i < size; i++) {
                if (fails(i)) {
                    return i;
                }
            }
            return NONE;
        }

        int failing() {
            int many = 0;
            for (int i = 0; i < size; i++) {
                if (fails(i)) {
                    many++;
                }
            }
            return many;
        }

        int ofRule(int number) {
            int many = 0;
            for (int i = 0; i < size; i++) {
                if (number(i) == number) {
                    many++;
                }
            }
            return many;
        }

        /** How many rules have questions here; those of one rule stand together. */
        int groups() {
            int many = 0;
            for (int i = 0; i < size; i++) {
                if (startsGroup(i)) {
                    many++;
                }
            }
            return many;
        }

        /** Where the questions of the i-th of these rules begin. */
        int groupStart(int wanted) {
            int passed = 0;
            for (int i = 0; i < size; i++) {
                if (startsGroup(i)) {
                    if (passed == wanted) {
                        return i;
                    }
                    passed++;
                }
            }
            return NONE;
        }

        private boolean startsGroup(int i) {
            return i == 0 || number(i) != number(i - 1);
        }

        private boolean isInside(int i) {
            return i >= 0 && i < size && i < MOST;
        }
    }

    /** Finds the questions of which the state differs between two sets of rows, by the rows that differ alone. */
    static final class Comparison {
        /** Two values of each row that differs, and each key that is looked at. */
        static final int MOST_SUBJECTS = 3 * KEYS;

        private final int[] changed = new int[TABLES];
        private final int[] comeOrGone = new int[TABLES];
        private final int[] subjects = new int[MOST_SUBJECTS];
        private int size;

        void ofAllRows(Rows from, Rows to) {
            for (int table = 0; table < TABLES; table++) {
                comeOrGone[table] = from.keyBits(table) ^ to.keyBits(table);
                changed[table] = comeOrGone[table];
                int inBoth = from.keyBits(table) & to.keyBits(table);
                for (int key = 0; key < KEYS; key++) {
                    if ((inBoth >> key & 1) != 0 && valuesDiffer(from, to, table, key)) {
                        changed[table] |= 1 << key;
                    }
                }
            }
        }

        /** For a row that is in both, all others being alike. */
        void ofOneRow(int table, int key) {
            for (int other = 0; other < TABLES; other++) {
                comeOrGone[other] = 0;
                changed[other] = 0;
            }
            if (isTable(table) && isKey(key)) {
                changed[table] = 1 << key;
            }
        }

        void addQuestions(Rule rule, Rows from, Rows to, Questions into) {
            size = 0;
            offerByRows(rule, from, to);
            if (rule.looksAtKeys() && isTable(rule.other)) {
                offerKeys(comeOrGone[rule.other]);
            }
            for (int i = 0; i < size && i < MOST_SUBJECTS; i++) {
                int subject = subjects[i];
                int before = rule.state(from, subject);
                int after = rule.state(to, subject);
                if (before != after) {
                    into.add(rule, subject, before, after, rule.fails(to, subject, after));
                }
            }
        }

        private void offerByRows(Rule rule, Rows from, Rows to) {
            int keys = isTable(rule.table) ? changed[rule.table] : 0;
            if (rule.kind == RANGE || rule.kind == TREE) {
                offerKeys(keys);
                return;
            }
            for (int key = 0; key < KEYS && keys >> key != 0; key++) {
                if ((keys >> key & 1) != 0) {
                    offerValues(rule, from, to, key);
                }
            }
        }

        /** Null and the like are no subjects; of count, values that are no keys are none either. */
        private void offerValues(Rule rule, Rows from, Rows to, int key) {
            int was = from.cell(rule.table, key, rule.column);
            int is = to.cell(rule.table, key, rule.column);
            if (was == is && rule.kind != SUM) {
                return;
            }
            if (rule.isSubject(was)) {
                insert(was);
            }
            if (rule.isSubject(is)) {
                insert(is);
            }
        }

        private void offerKeys(int keys) {
            for (int key = 0; key < KEYS && keys >> key != 0; key++) {
                if ((keys >> key & 1) != 0) {
                    insert(key);
                }
            }
        }

        /** Keeps the subjects in order, each once. */
        private void insert(int subject) {
            int at = size;
            while (at > 0 && at <= MOST_SUBJECTS && subjects[at - 1] > subject) {
                at--;
            }
            boolean known = at > 0 && at <= MOST_SUBJECTS && subjects[at - 1] == subject;
            if (known || size < 0 || size >= MOST_SUBJECTS) {
                return;
            }
            for (int i = size; i > at && i < MOST_SUBJECTS; i--) {
                subjects[i] = subjects[i - 1];
            }
            if (at >= 0 && at < MOST_SUBJECTS) {
                subjects[at] = subject;
                size++;
            }
        }

        private static boolean valuesDiffer(Rows from, Rows to, int table, int key) {
            for (int column = 0; column < COLUMNS; column++) {
                if (from.cell(table, key, column) != to.cell(table, key, column)) {
                    return true;
                }
            }
            return false;
        }
    }

    /** Cuts and moves rows together with what follows them by rules that refer with cascade or clear. */
    static final class Followers {
        private static final int MOST_ROWS = TABLES * KEYS;
        /** Each row that is cut is looked at once for each rule, once at its end, and comes by one step. */
        private static final int MOST_STEPS = MOST_ROWS * (RULES + 2);

        private final int[] cutTable = new int[MOST_ROWS];
        private final int[] cutKey = new int[MOST_ROWS];
        private final int[] atRule = new int[MOST_ROWS];
        private final int[] atKey = new int[MOST_ROWS];
        private int deep;

        /** A stack of its own, since a chain of rows may be longer than calls should be nested. */
        void cutRow(Rows rows, Book book, int table, int key) {
            deep = 0;
            descend(rows, table, key);
            for (int step = 0; step < MOST_STEPS && deep > 0; step++) {
                goOn(rows, book);
            }
        }

        void moveRow(Rows rows, Book book, int table, int key, int to) {
            rows.move(table, key, to);
            for (int number = 0; number < RULES; number++) {
                Rule rule = book.get(number);
                if (rule != null && rule.follows(table)) {
                    replace(rows, rule, key, rule.action == CASCADE ? to : NULL);
                }
            }
        }

        private static void replace(Rows rows, Rule rule, int was, int is) {
            for (int key = 0; key < KEYS; key++) {
                if (rows.cell(rule.table, key, rule.column) == was) {
                    rows.change(rule.table, key, rule.column, is);
                }
            }
        }

        private void descend(Rows rows, int table, int key) {
            rows.remove(table, key);
            if (deep >= 0 && deep < MOST_ROWS) {
                cutTable[deep] = table;
                cutKey[deep] = key;
                atRule[deep] = 0;
                atKey[deep] = 0;
                deep++;
            }
        }

        /** Goes on with the row that was cut last: to the end of a rule, or to the next row that is cut by it. */
        private void goOn(Rows rows, Book book) {
            int top = deep - 1;
            if (top < 0 || top >= MOST_ROWS) {
                return;
            }
            if (atRule[top] >= RULES) {
                deep--;
                return;
            }
            Rule rule = book.get(atRule[top]);
            if (rule != null && rule.follows(cutTable[top])) {
                if (rule.action == CLEAR) {
                    replace(rows, rule, cutKey[top], NULL);
                } else {
                    int next = nextWith(rows, rule, atKey[top], cutKey[top]);
                    if (next != NONE) {
                        atKey[top] = next + 1;
                        descend(rows, rule.table, next);
                        return;
                    }
                }
            }
            atRule[top]++;
            atKey[top] = 0;
        }

        private static int nextWith(Rows rows, Rule rule, int from, int v) {
            for (int key = from; key < KEYS; key++) {
                if (rows.cell(rule.table, key, rule.column) == v) {
                    return key;
                }
            }
            return NONE;
        }
    }

    /** Finds the rows that refer to a row. */
    static final class Leaners {
        private static final int MOST_ROWS = TABLES * KEYS;

        private final int[] reached = new int[TABLES];
        private final int[] rowTable = new int[MOST_ROWS];
        private final int[] rowKey = new int[MOST_ROWS];
        private int size;

        int straight(Rows rows, Book book, int table, int key) {
            clear();
            reachFrom(rows, book, table, key);
            return size;
        }

        int straightOrNot(Rows rows, Book book, int table, int key) {
            clear();
            reach(table, key);
            for (int i = 0; i < size && i < MOST_ROWS; i++) {
                reachFrom(rows, book, rowTable[i], rowKey[i]);
            }
            return size - 1;
        }

        private void clear() {
            size = 0;
            for (int table = 0; table < TABLES; table++) {
                reached[table] = 0;
            }
        }

        private void reachFrom(Rows rows, Book book, int table, int key) {
            for (int i = 0; i < book.size(); i++) {
                Rule rule = book.inOrder(i);
                if (rule == null || rule.kind != REFERS || rule.other != table) {
                    continue;
                }
                for (int k = 0; k < KEYS; k++) {
                    if (rows.cell(rule.table, k, rule.column) == key) {
                        reach(rule.table, k);
                    }
                }
            }
        }

        private void reach(int table, int key) {
            if (!isTable(table) || !isKey(key) || (reached[table] >> key & 1) != 0) {
                return;
            }
            if (size >= 0 && size < MOST_ROWS) {
                reached[table] |= 1 << key;
                rowTable[size] = table;
                rowKey[size] = key;
                size++;
            }
        }
    }

    /** The question by which the latest call was refused, if one was, and its words. */
    static final class Verdict {
        private final StringBuilder words = new StringBuilder();
        private boolean told;
        private int number;
        private int subject;

        void clear() {
            told = false;
            words.setLength(0);
        }

        void tell(int number, String kind, int subject) {
            this.number = number;
            this.subject = subject;
            told = true;
            words.setLength(0);
            words.append("rule ");
            words.append(number);
            words.append(' ');
            words.append(kind);
            words.append(' ');
            words.append(subject);
        }

        boolean isTold() {
            return told;
        }

        int number() {
            return number;
        }

        int subject() {
            return subject;
        }

        int signs() {
            return words.length();
        }

        int signAt(int i) {
            return i >= 0 && i < words.length() ? words.charAt(i) : NONE;
        }
    }
}
