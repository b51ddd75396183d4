/** A machine that asks back: scripts of key words and rules, their talks, and what may be said of these. */
public final class AskBack {
    public static final int NONE = -1;

    private static final int MOST_TRAYS = 4;
    private static final int MOST_NUMBERS = 60;
    private static final int MOST_SORTS = 4;
    private static final int MOST_TEXT = 600;
    private static final int MOST_LINE_TEXT = 120;
    private static final int MOST_LINES = 16;
    private static final int MOST_WORDS = 12;
    private static final int MOST_LETTERS = 8;
    private static final int MOST_SCRIPTS = 3;
    private static final int MOST_KEYS = 12;
    private static final int MOST_RULES = 24;
    private static final int MOST_TURNS = 12;
    private static final int MOST_ANSWERS = 4;
    private static final int MOST_ITEMS = 8;
    private static final int MOST_PIECES = 10;
    private static final int MOST_REMEMBERED = 6;
    private static final int MOST_GOES = 8;
    private static final int MOST_COUPLES = 12;
    private static final int MOST_SAYINGS = 15;
    private static final int MOST_BROKE = 16;
    private static final int MOST_CHOICES = 6;
    private static final int MOST_LED = 5;
    private static final int MOST_TURNS_ABOUT = 200;
    private static final int MOST_LEAST_RULES = 12;
    private static final int MOST_ORDERED_KEYS = 6;
    private static final int MOST_DOUBT = 9;
    private static final int MOST_ODDS = 16;
    private static final int MOST_MARKS = 3;

    /** Where a none's answers stand: behind those of all rules. */
    private static final int NONE_RULE = MOST_RULES;
    private static final int ANSWER_SLOTS = (MOST_RULES + 1) * MOST_ANSWERS;

    /** Items of a pattern that are no words. */
    private static final long ANY_NUMBER = -1L;
    private static final long ANY_ONE = -2L;

    private static final int OK = 0;
    private static final int IMPOSSIBLE = 1;
    private static final int MISSING = 2;
    private static final int NO_PLACE = 3;
    private static final int TOO_MANY = 4;
    private static final int NO_SUCH = 6;
    private static final int UNLIKE = 8;
    private static final int FAULTY = 9;

    private static final int WITH_GAP = 0;
    private static final int WITHOUT_GAP = 1;
    private static final int BY_GO = 2;
    private static final int FROM_MEMORY = 3;
    private static final int BY_NONE = 4;
    private static final int NOTHING = 5;

    private static final int KIND = 0;
    private static final int KEY = 1;
    private static final int RULE = 2;
    private static final int ANSWER = 3;
    private static final int GOES = 4;
    private static final int TOLD = 5;

    private final Tray[] trays = new Tray[MOST_TRAYS];
    private final byte[] tape = new byte[MOST_TEXT];
    private final Reader reader = new Reader();
    private final Book book = new Book();
    private final Book[] marks = new Book[MOST_MARKS];
    private final Talk talk = new Talk();
    private final Search search = new Search();
    private final Row saidWords = new Row();
    private final int[] saidTold = new int[TOLD];
    private final int[] gaps = new int[MOST_ITEMS];
    private int tapeSize = 0;
    private int markCount = 0;
    private int gapCount = NONE;
    private boolean anySaid = false;
    private int status = OK;
    private long top = 0;
    private long bottom = 1;

    public AskBack() {
        for (int i = 0; i < trays.length; i++) {
            trays[i] = new Tray();
        }
        for (int i = 0; i < marks.length; i++) {
            marks[i] = new Book();
        }
    }

    public int status() {
        return status;
    }

    public long top() {
        return top;
    }

    public long bottom() {
        return bottom;
    }

    // ---- TRAYS

    public boolean tray(int tray, int sort, int many) {
        if (!isTray(tray) || sort < 0 || sort >= MOST_SORTS || many < 0 || many > MOST_NUMBERS) {
            return settle(IMPOSSIBLE);
        }
        trays[tray].make(sort, many);
        return settle(OK);
    }

    public boolean write(int tray, int place, long v) {
        int wrong = placeStatus(tray, place);
        if (wrong == OK) {
            trays[tray].put(place, v);
        }
        return settle(wrong);
    }

    public long read(int tray, int place) {
        int wrong = placeStatus(tray, place);
        return settle(wrong) ? trays[tray].at(place) : NONE;
    }

    public boolean pour(int from, int place, int to, int at, int many) {
        if (!isTray(from) || !isTray(to) || place < 0 || at < 0 || many < 0) {
            return settle(IMPOSSIBLE);
        }
        Tray source = trays[from];
        Tray goal = trays[to];
        if (source.isMissing() || goal.isMissing()) {
            return settle(MISSING);
        }
        if (source.sort != goal.sort) {
            return settle(UNLIKE);
        }
        if (!source.holds(place, many) || !goal.holds(at, many)) {
            return settle(NO_PLACE);
        }
        System.arraycopy(source.numbers, place, goal.numbers, at, many);
        return settle(OK);
    }

    // ---- LINES, SCRIPTS

    public int feed(int a, int b, int c, int d, int e) {
        if (tapeSize + 20 > MOST_TEXT) {
            return NONE;
        }
        putOnTape(a);
        putOnTape(b);
        putOnTape(c);
        putOnTape(d);
        putOnTape(e);
        return tapeSize;
    }

    public int line(int n) {
        if (n < 0 || n > tapeSize || n > MOST_LINE_TEXT) {
            return refuse(IMPOSSIBLE);
        }
        if (!reader.readLine(tape, n)) {
            tapeSize = 0;
            return refuse(FAULTY);
        }
        if (book.lineCount >= MOST_LINES) {
            return refuse(TOO_MANY);
        }
        tapeSize = 0;
        return grant(book.addLine(reader.line));
    }

    public int script(int script, int n) {
        if (!isScript(script) || n < 0 || n > tapeSize) {
            return refuse(IMPOSSIBLE);
        }
        boolean good = reader.readScript(tape, n);
        tapeSize = 0;
        if (!good) {
            return refuse(FAULTY);
        }
        Script old = book.scripts[script];
        book.scripts[script] = reader.script;
        reader.script = old;
        book.states[script].refresh();
        return grant(book.scripts[script].ruleCount);
    }

    public int fault(int what) {
        if (what == 0) {
            return reader.faultKind;
        }
        return what == 1 ? reader.faultPlace : NONE;
    }

    public int many(int what) {
        switch (what) {
            case 0:
                return grant(book.lineCount);
            case 1:
                return grant(book.coupleCount);
            case 2:
                return grant(talk.size);
            default:
                return refuse(IMPOSSIBLE);
        }
    }

    public long word(int line, int k) {
        if (!isLine(line) || k < NONE) {
            return refuse(IMPOSSIBLE);
        }
        return tellWord(book.lines[line], k);
    }

    public int count(int script, int what) {
        if (!isScript(script)) {
            return refuse(IMPOSSIBLE);
        }
        Script of = book.scripts[script];
        switch (what) {
            case 0:
                return grant(of.keyCount);
            case 1:
                return grant(of.ruleCount);
            case 2:
                return grant(of.turnCount);
            case 3:
                return grant(book.states[script].keptCount);
            default:
                return refuse(IMPOSSIBLE);
        }
    }

    public int rule(int script, int rule, int what) {
        if (!isRule(script, rule)) {
            return refuse(IMPOSSIBLE);
        }
        Script of = book.scripts[script];
        switch (what) {
            case 0:
                return grant(of.ruleKeys[rule]);
            case 1:
                return grant(of.keepSet >>> rule & 1);
            case 2:
                return grant(of.answerCounts[rule]);
            case 3:
                return grant(book.states[script].nextAnswer(rule));
            default:
                return refuse(IMPOSSIBLE);
        }
    }

    // ---- FITS, SAYINGS

    public int fit(int script, int rule, int line) {
        if (!isRule(script, rule) || !isLine(line)) {
            return refuse(IMPOSSIBLE);
        }
        Ear ear = search.ears[0];
        ear.listen(book.scripts[script], book.lines[line]);
        if ((ear.fitting >>> rule & 1) == 0) {
            return grant(0);
        }
        gapCount = book.scripts[script].gapsOf(rule);
        System.arraycopy(ear.gaps, rule * MOST_ITEMS, gaps, 0, MOST_ITEMS);
        return grant(1);
    }

    public int gap(int k, int what) {
        if (k < 1 || what < 0 || what > 1) {
            return refuse(IMPOSSIBLE);
        }
        if (k > gapCount || k > gaps.length) {
            return refuse(NO_SUCH);
        }
        int held = gaps[k - 1];
        return grant(what == 0 ? Ear.placeIn(held) : Ear.sizeIn(held));
    }

    public long turned(int script, long word) {
        if (!isScript(script) || !isWord(word)) {
            return refuse(IMPOSSIBLE);
        }
        status = OK;
        return book.scripts[script].turn(word, NONE);
    }

    public boolean begin(int script) {
        if (!isScript(script)) {
            return settle(IMPOSSIBLE);
        }
        book.states[script].refresh();
        return settle(OK);
    }

    public int say(int script, int line) {
        if (!isScript(script) || !isLine(line)) {
            return refuse(IMPOSSIBLE);
        }
        Ear ear = search.ears[0];
        ear.listen(book.scripts[script], book.lines[line]);
        search.sayer.answer(ear, book.states[script], ear.order, ear.orderCount);
        saidWords.copy(search.sayer.words);
        System.arraycopy(search.sayer.told, 0, saidTold, 0, TOLD);
        anySaid = true;
        return grant(saidWords.size);
    }

    public long said(int k) {
        if (k < 0) {
            return refuse(IMPOSSIBLE);
        }
        return anySaid ? tellWord(saidWords, k) : refuse(NO_SUCH);
    }

    public int how(int what) {
        if (what < 0 || what >= TOLD) {
            return refuse(IMPOSSIBLE);
        }
        int told = anySaid ? saidTold[what] : NONE;
        return told == NONE ? refuse(NO_SUCH) : grant(told);
    }

    public long remembered(int script, int k, int i) {
        if (!isScript(script) || k < 0 || i < NONE) {
            return refuse(IMPOSSIBLE);
        }
        State state = book.states[script];
        if (k >= state.keptCount || k >= MOST_REMEMBERED) {
            return refuse(NO_SUCH);
        }
        return tellWord(state.kept[k], i);
    }

    // ---- TALKS

    public int talk(int script, int tray, int many) {
        int wrong = linesStatus(script, tray, many, MOST_SAYINGS);
        if (wrong != OK) {
            return refuse(wrong);
        }
        listenTo(script, tray, many);
        search.hold(talk, many);
        return grant(talk.ofKind(WITH_GAP));
    }

    public long spoken(int k, int what) {
        if (k < 0 || what < NONE || what >= MOST_WORDS) {
            return refuse(IMPOSSIBLE);
        }
        return k < talk.size ? tellWord(talk.sayings[k], what) : refuse(NO_SUCH);
    }

    public int lead(int script, int tray, int many, int line) {
        if (!isLine(line)) {
            return refuse(IMPOSSIBLE);
        }
        int wrong = linesStatus(script, tray, many, MOST_CHOICES);
        if (wrong != OK) {
            return refuse(wrong);
        }
        listenTo(script, tray, many);
        int size = search.shortest(many, book.lines[line]);
        if (size == NONE) {
            return refuse(NO_SUCH);
        }
        for (int i = 0; i < size; i++) {
            search.led[i] = (int) trays[tray].at(search.path[i]);
        }
        search.ledSize = size;
        return grant(size);
    }

    public int led(int k) {
        if (k < 0) {
            return refuse(IMPOSSIBLE);
        }
        return k < search.ledSize ? grant(search.led[k]) : refuse(NO_SUCH);
    }

    public int face(int one, int other, int line, int most) {
        if (!isScript(one) || !isScript(other) || !isLine(line) || most < 1 || most > MOST_TURNS_ABOUT) {
            return refuse(IMPOSSIBLE);
        }
        return grant(search.meet(book.scripts[one], book.scripts[other], book.lines[line], most));
    }

    public int ring(int what) {
        if (what < 0 || what > 1) {
            return refuse(IMPOSSIBLE);
        }
        if (search.ringSize == NONE) {
            return refuse(NO_SUCH);
        }
        return grant(what == 0 ? search.ringAhead : search.ringSize);
    }

    public int broken(long a, long b) {
        if (!isWord(a) || !isWord(b)) {
            return refuse(IMPOSSIBLE);
        }
        if (book.coupleCount >= MOST_COUPLES) {
            return refuse(TOO_MANY);
        }
        return grant(book.addCouple(a, b));
    }

    public int broke(int script, int tray, int many) {
        int wrong = linesStatus(script, tray, many, MOST_BROKE);
        if (wrong != OK) {
            return refuse(wrong);
        }
        listenTo(script, tray, many);
        return grant(search.firstBroke(book, many));
    }

    public int mend(int script, int tray, int many, int what) {
        if (what < 0 || what > 3) {
            return refuse(IMPOSSIBLE);
        }
        int wrong = linesStatus(script, tray, many, MOST_BROKE);
        if (wrong != OK) {
            return refuse(wrong);
        }
        listenTo(script, tray, many);
        if (search.firstBroke(book, many) == NONE) {
            return refuse(NO_SUCH);
        }
        if (what < 2) {
            search.mendByRules(book, many, book.scripts[script].ruleCount);
        } else {
            search.mendByTurns(book, many, book.scripts[script].turnCount);
        }
        if (what == 0 || what == 2) {
            return grant(search.mendCount);
        }
        return search.mendFirst == NONE ? refuse(NO_SUCH) : grant(search.mendFirst);
    }

    public int doubt(int n) {
        if (n < 1 || n > MOST_DOUBT) {
            return refuse(IMPOSSIBLE);
        }
        return grant(talk.firstSaidBefore(n));
    }

    public boolean odds(int of) {
        if (of < 0 || of > MOST_ODDS) {
            return settle(IMPOSSIBLE);
        }
        tellPower(of, talk.repeats());
        return settle(OK);
    }

    public int claim(int claim) {
        switch (claim) {
            case 0:
                return grant(talk.firstOfKinds(1 << NOTHING));
            case 1:
                return grant(talk.firstSaidBefore(1));
            case 2:
                return grant(talk.firstBroken(book));
            case 3:
                return grant(talk.firstOfKinds(1 << WITHOUT_GAP | 1 << BY_NONE | 1 << NOTHING));
            default:
                return refuse(IMPOSSIBLE);
        }
    }

    public int least(int script, int tray, int many) {
        int wrong = askedStatus(script, tray, many, MOST_SAYINGS);
        if (wrong == OK && book.scripts[script].ruleCount > MOST_LEAST_RULES) {
            wrong = TOO_MANY;
        }
        if (wrong == OK) {
            wrong = rowStatus(tray, many);
        }
        if (wrong != OK) {
            return refuse(wrong);
        }
        listenTo(script, tray, many);
        return grant(search.fewest(many, book.scripts[script].ruleCount));
    }

    public int leastSet() {
        return search.leastRules == NONE ? refuse(NO_SUCH) : grant(search.leastRules);
    }

    public int orders(int script) {
        if (!isScript(script)) {
            return refuse(IMPOSSIBLE);
        }
        if (book.scripts[script].keyCount > MOST_ORDERED_KEYS) {
            return refuse(TOO_MANY);
        }
        if (talk.size == 0) {
            return refuse(NO_SUCH);
        }
        for (int i = 0; i < talk.size; i++) {
            search.ears[i].listen(book.scripts[script], talk.lines[i]);
        }
        return grant(search.tryOrders(talk, book.scripts[script].keyCount));
    }

    public int ahead(int a, int b) {
        if (search.orderedKeys == NONE) {
            return refuse(NO_SUCH);
        }
        if (a < 0 || b < 0 || a >= search.orderedKeys || b >= search.orderedKeys || a == b) {
            return refuse(IMPOSSIBLE);
        }
        return grant(search.aheads[a * MOST_ORDERED_KEYS + b]);
    }

    public boolean leave(int k, boolean is) {
        if (k < 0 || k >= talk.size) {
            return settle(IMPOSSIBLE);
        }
        talk.unread[k] = is;
        return settle(OK);
    }

    public int heard(long word) {
        if (!isWord(word)) {
            return refuse(IMPOSSIBLE);
        }
        return grant(talk.timesRead(word));
    }

    // ---- MARKS

    public int mark() {
        if (markCount >= MOST_MARKS) {
            return refuse(TOO_MANY);
        }
        marks[markCount].copy(book);
        markCount++;
        return grant(markCount);
    }

    public int back() {
        if (markCount <= 0) {
            return refuse(NO_SUCH);
        }
        markCount--;
        book.copy(marks[markCount]);
        return grant(markCount);
    }

    private boolean settle(int now) {
        status = now;
        return now == OK;
    }

    private int refuse(int why) {
        status = why;
        return NONE;
    }

    private int grant(int answer) {
        status = OK;
        return answer;
    }

    private long tellWord(Row row, int k) {
        if (k != NONE && (k < 0 || k >= row.size)) {
            return refuse(NO_SUCH);
        }
        status = OK;
        return k == NONE ? row.size : row.at(k);
    }

    /** A power of a fraction without a common divisor has none either; halved four times, 0 by 16 is 0 by 1. */
    private void tellPower(int of, int times) {
        int over = of;
        int under = MOST_ODDS;
        for (int i = 0; i < 4 && over % 2 == 0; i++) {
            over /= 2;
            under /= 2;
        }
        top = 1;
        bottom = 1;
        for (int i = 0; i < times; i++) {
            top *= over;
            bottom *= under;
        }
    }

    private void putOnTape(int four) {
        for (int shift = 24; shift >= 0; shift -= 8) {
            if (tapeSize < tape.length) {
                tape[tapeSize] = (byte) (four >>> shift);
                tapeSize++;
            }
        }
    }

    private static boolean isTray(int tray) {
        return tray >= 0 && tray < MOST_TRAYS;
    }

    private static boolean isScript(int script) {
        return script >= 0 && script < MOST_SCRIPTS;
    }

    private boolean isLine(long line) {
        return line >= 0 && line < book.lineCount;
    }

    private boolean isRule(int script, int rule) {
        return isScript(script) && rule >= 0 && rule < book.scripts[script].ruleCount;
    }

    private static boolean isWord(long number) {
        if (number <= 0 || number >>> 5 * MOST_LETTERS != 0) {
            return false;
        }
        long rest = number;
        for (int i = 0; i < MOST_LETTERS && rest != 0; i++) {
            long letter = rest & 31;
            if (letter < 1 || letter > 26) {
                return false;
            }
            rest >>>= 5;
        }
        return true;
    }

    private int placeStatus(int tray, int place) {
        if (!isTray(tray)) {
            return IMPOSSIBLE;
        }
        if (trays[tray].isMissing()) {
            return MISSING;
        }
        return trays[tray].holds(place, 1) ? OK : NO_PLACE;
    }

    private int linesStatus(int script, int tray, int many, int most) {
        int wrong = askedStatus(script, tray, many, most);
        return wrong == OK ? rowStatus(tray, many) : wrong;
    }

    private static int askedStatus(int script, int tray, int many, int most) {
        return isScript(script) && isTray(tray) && many >= 1 && many <= most ? OK : IMPOSSIBLE;
    }

    /** Whether a tray's first so many numbers are lines. */
    private int rowStatus(int tray, int many) {
        Tray row = trays[tray];
        if (row.isMissing()) {
            return MISSING;
        }
        if (!row.holds(0, many)) {
            return NO_PLACE;
        }
        for (int i = 0; i < many; i++) {
            if (!isLine(row.at(i))) {
                return IMPOSSIBLE;
            }
        }
        return OK;
    }

    private void listenTo(int script, int tray, int many) {
        for (int i = 0; i < many; i++) {
            int line = (int) trays[tray].at(i);
            search.ears[i].listen(book.scripts[script], book.lines[line]);
        }
    }

    /** A row of numbers of one sort. */
    private static final class Tray {
        final long[] numbers = new long[MOST_NUMBERS];
        int size = NONE;
        int sort = 0;

        boolean isMissing() {
            return size == NONE;
        }

        void make(int newSort, int newSize) {
            sort = newSort;
            size = newSize;
            for (int i = 0; i < numbers.length; i++) {
                numbers[i] = 0;
            }
        }

        /** In long: a place and a number may be great enough to wrap around. */
        boolean holds(int place, int many) {
            return place >= 0 && many >= 0 && (long) place + many <= size;
        }

        long at(int place) {
            return holds(place, 1) ? numbers[place] : NONE;
        }

        void put(int place, long v) {
            if (holds(place, 1)) {
                numbers[place] = cut(v);
            }
        }

        private long cut(long v) {
            switch (sort) {
                case 0:
                    return (byte) v;
                case 1:
                    return (short) v;
                case 2:
                    return (int) v;
                default:
                    return v;
            }
        }
    }

    /** A line: words as numbers, cut behind the twelfth. */
    private static final class Row {
        final long[] words = new long[MOST_WORDS];
        int size = 0;

        void clear() {
            size = 0;
        }

        void add(long word) {
            if (size < MOST_WORDS) {
                words[size] = word;
                size++;
            }
        }

        long at(int k) {
            return k >= 0 && k < size ? words[k] : NONE;
        }

        void copy(Row from) {
            size = from.size;
            System.arraycopy(from.words, 0, words, 0, size);
        }

        boolean same(Row other) {
            if (size != other.size) {
                return false;
            }
            for (int i = 0; i < size; i++) {
                if (words[i] != other.words[i]) {
                    return false;
                }
            }
            return true;
        }

        int placeOf(long word) {
            for (int i = 0; i < size; i++) {
                if (words[i] == word) {
                    return i;
                }
            }
            return NONE;
        }

        int timesOf(long word) {
            int times = 0;
            for (int i = 0; i < size; i++) {
                times += words[i] == word ? 1 : 0;
            }
            return times;
        }
    }

    /** Reads lines and scripts, and tells the first fault of the latest one. */
    private static final class Reader {
        private static final int END = 0;
        private static final int WORD = 1;
        private static final int LONG_WORD = 2;
        private static final int NUMBER = 3;
        private static final int SEMICOLON = 4;
        private static final int STAR = 5;
        private static final int ASK = 6;
        private static final int BAD = 7;
        private static final int BLANK = 8;
        private static final long TURN = 677454L;
        private static final long KEY_WORD = 11449L;
        private static final long RANK = 591307L;
        private static final long WHEN = 762030L;
        private static final long SAY = 19513L;
        private static final long KEEP = 365744L;
        private static final long NONE_WORD = 474565L;
        private static final long OR = 498L;
        private static final long GO = 239L;
        private static final long[] NO_NAMES = {TURN, KEY_WORD, RANK, WHEN, SAY, KEEP, NONE_WORD, OR, GO};

        final Row line = new Row();
        /** The script that is read; whoever takes it gives another one for it. */
        Script script = new Script();
        int faultKind = NONE;
        int faultPlace = NONE;
        /** The text cut into tokens; behind the last one stands the end. */
        private final int[] kinds = new int[MOST_TEXT + 1];
        private final int[] starts = new int[MOST_TEXT + 1];
        private final int[] sizes = new int[MOST_TEXT + 1];
        private final long[] values = new long[MOST_TEXT + 1];
        private int tokenCount = 0;
        private final int[] goTokens = new int[ANSWER_SLOTS];
        private final int[] goSlots = new int[ANSWER_SLOTS];
        private int goCount = 0;
        private int at = 0;
        private int gapCount = 0;

        boolean readLine(byte[] text, int length) {
            open(text, length);
            line.clear();
            for (at = 0; at < tokenCount; at++) {
                if (kind() == LONG_WORD) {
                    return fail(2);
                }
                if (kind() != WORD) {
                    return fail(1);
                }
                if (line.size >= MOST_WORDS) {
                    return fail(3);
                }
                line.add(value());
            }
            return true;
        }

        boolean readScript(byte[] text, int length) {
            open(text, length);
            script.clear();
            goCount = 0;
            boolean good = true;
            for (int part = 0; part < MOST_TEXT && good && kind() != END; part++) {
                if (isThe(TURN)) {
                    good = readTurn();
                } else if (isThe(KEY_WORD)) {
                    good = readKey();
                } else if (isThe(WHEN) || isThe(KEEP)) {
                    good = readRule(isThe(KEEP));
                } else if (isThe(NONE_WORD)) {
                    good = readNone();
                } else {
                    good = misplaced();
                }
            }
            return good && findGoes();
        }

        private void open(byte[] text, int length) {
            cut(text, length);
            at = 0;
            faultKind = 0;
            faultPlace = NONE;
        }

        private void cut(byte[] text, int length) {
            int ahead = BLANK;
            tokenCount = 0;
            for (int i = 0; i < length && i < text.length && tokenCount < MOST_TEXT; i++) {
                int kind = kindOf(text[i]);
                if (kind == ahead && kind == WORD) {
                    lengthenWord(text[i]);
                } else if (kind == ahead && kind == NUMBER) {
                    lengthenNumber(text[i]);
                } else if (kind != BLANK) {
                    openToken(kind, i, text[i]);
                }
                ahead = kind;
            }
            kinds[tokenCount] = END;
            starts[tokenCount] = length;
        }

        private static int kindOf(int sign) {
            if (sign >= 'a' && sign <= 'z') {
                return WORD;
            }
            if (sign >= '0' && sign <= '9') {
                return NUMBER;
            }
            switch (sign) {
                case 10:
                case 32:
                    return BLANK;
                case ';':
                    return SEMICOLON;
                case '*':
                    return STAR;
                case '?':
                    return ASK;
                default:
                    return BAD;
            }
        }

        private void openToken(int kind, int start, int sign) {
            kinds[tokenCount] = kind;
            starts[tokenCount] = start;
            sizes[tokenCount] = 1;
            values[tokenCount] = kind == WORD ? sign - 'a' + 1 : sign - '0';
            tokenCount++;
        }

        private void lengthenWord(int sign) {
            int token = tokenCount - 1;
            if (token < 0) {
                return;
            }
            sizes[token]++;
            if (sizes[token] > MOST_LETTERS) {
                kinds[token] = LONG_WORD;
            } else {
                values[token] = values[token] << 5 | sign - 'a' + 1;
            }
        }

        private void lengthenNumber(int sign) {
            int token = tokenCount - 1;
            if (token < 0) {
                return;
            }
            sizes[token]++;
            if (sizes[token] > 2) {
                kinds[token] = BAD;
            } else {
                values[token] = values[token] * 10 + sign - '0';
            }
        }

        private int kind() {
            return at < tokenCount ? kinds[at] : END;
        }

        private long value() {
            return at < tokenCount ? values[at] : NONE;
        }

        private boolean isThe(long word) {
            return kind() == WORD && value() == word;
        }

        private boolean isName() {
            if (kind() != WORD) {
                return false;
            }
            for (int i = 0; i < NO_NAMES.length; i++) {
                if (value() == NO_NAMES[i]) {
                    return false;
                }
            }
            return true;
        }

        private boolean fail(int why) {
            faultKind = why;
            faultPlace = at <= tokenCount ? starts[at] : NONE;
            return false;
        }

        private boolean misplaced() {
            return fail(kind() == BAD ? 1 : 2);
        }

        private boolean readEnd() {
            if (kind() != SEMICOLON) {
                return misplaced();
            }
            at++;
            return true;
        }

        private boolean readTurn() {
            if (script.turnCount >= MOST_TURNS) {
                return fail(5);
            }
            at++;
            if (!isName()) {
                return misplaced();
            }
            if (script.turnNamed(value()) != NONE) {
                return fail(3);
            }
            long from = value();
            at++;
            if (!isName()) {
                return misplaced();
            }
            script.addTurn(from, value());
            at++;
            return readEnd();
        }

        private boolean readKey() {
            if (script.keyCount >= MOST_KEYS) {
                return fail(5);
            }
            at++;
            if (!isName()) {
                return misplaced();
            }
            if (script.keyNamed(value()) != NONE) {
                return fail(3);
            }
            long name = value();
            at++;
            if (!isThe(RANK)) {
                return misplaced();
            }
            at++;
            if (kind() != NUMBER) {
                return misplaced();
            }
            script.addKey(name, (int) value());
            at++;
            return readEnd();
        }

        private boolean readRule(boolean keep) {
            if (script.keyCount == 0) {
                return fail(4);
            }
            if (script.ruleCount >= MOST_RULES) {
                return fail(5);
            }
            int rule = script.ruleCount;
            script.addRule(keep);
            at++;
            if (!readPattern(rule)) {
                return false;
            }
            if (!isThe(SAY)) {
                return misplaced();
            }
            at++;
            return readAnswers(rule, keep);
        }

        private boolean readNone() {
            if (script.answerCounts[NONE_RULE] > 0) {
                return fail(4);
            }
            at++;
            gapCount = 0;
            return readAnswers(NONE_RULE, false);
        }

        private boolean readPattern(int rule) {
            gapCount = 0;
            for (int k = 0; k <= MOST_ITEMS; k++) {
                boolean many = kind() == STAR;
                boolean one = kind() == ASK;
                if (!many && !one && !isName()) {
                    return k > 0 || misplaced();
                }
                if (k >= MOST_ITEMS) {
                    return fail(5);
                }
                gapCount += many || one ? 1 : 0;
                script.addItem(rule, many ? ANY_NUMBER : one ? ANY_ONE : value());
                at++;
            }
            return false;
        }

        private boolean readAnswers(int rule, boolean keep) {
            for (int k = 0; k < MOST_ANSWERS; k++) {
                int slot = rule * MOST_ANSWERS + k;
                boolean good = isThe(GO) && !keep ? readGo(slot) : readPieces(slot);
                if (!good) {
                    return false;
                }
                script.answerCounts[rule] = k + 1;
                if (keep || !isThe(OR)) {
                    return readEnd();
                }
                if (k + 1 >= MOST_ANSWERS) {
                    return fail(5);
                }
                at++;
            }
            return false;
        }

        private boolean readGo(int slot) {
            at++;
            if (!isName()) {
                return misplaced();
            }
            if (goCount < ANSWER_SLOTS) {
                goTokens[goCount] = at;
                goSlots[goCount] = slot;
                goCount++;
            }
            at++;
            return true;
        }

        private boolean readPieces(int slot) {
            script.openAnswer(slot);
            for (int k = 0; k <= MOST_PIECES; k++) {
                boolean number = kind() == NUMBER;
                if (!number && !isName()) {
                    return k > 0 || misplaced();
                }
                if (number && (value() < 1 || value() > gapCount)) {
                    return fail(4);
                }
                if (k >= MOST_PIECES) {
                    return fail(5);
                }
                script.addPiece(slot, number ? -value() : value());
                at++;
            }
            return false;
        }

        /** A key may be told behind the go that names it, so this comes last. */
        private boolean findGoes() {
            for (int i = 0; i < goCount; i++) {
                at = goTokens[i];
                int key = script.keyNamed(value());
                if (key == NONE) {
                    return fail(6);
                }
                script.answerGoes[goSlots[i]] = key;
            }
            return true;
        }
    }

    /** A script as read; its state stands apart. */
    private static final class Script {
        /** Items of patterns and pieces of answers, all in one row: a number of a gap is held below 0. */
        final long[] parts = new long[MOST_TEXT];
        final long[] keyNames = new long[MOST_KEYS];
        final int[] keyRanks = new int[MOST_KEYS];
        final int[] keyStarts = new int[MOST_KEYS];
        final int[] keyEnds = new int[MOST_KEYS];
        final long[] turnFrom = new long[MOST_TURNS];
        final long[] turnTo = new long[MOST_TURNS];
        final int[] ruleKeys = new int[MOST_RULES];
        final int[] itemStarts = new int[MOST_RULES];
        final int[] itemCounts = new int[MOST_RULES];
        final int[] answerCounts = new int[MOST_RULES + 1];
        final int[] answerStarts = new int[ANSWER_SLOTS];
        final int[] answerSizes = new int[ANSWER_SLOTS];
        final int[] answerGoes = new int[ANSWER_SLOTS];
        int partCount = 0;
        int keyCount = 0;
        int turnCount = 0;
        int ruleCount = 0;
        int keepSet = 0;

        void clear() {
            partCount = 0;
            keyCount = 0;
            turnCount = 0;
            ruleCount = 0;
            keepSet = 0;
            for (int i = 0; i < answerCounts.length; i++) {
                answerCounts[i] = 0;
            }
            for (int i = 0; i < ANSWER_SLOTS; i++) {
                answerGoes[i] = NONE;
            }
        }

        void copy(Script from) {
            partCount = from.partCount;
            keyCount = from.keyCount;
            turnCount = from.turnCount;
            ruleCount = from.ruleCount;
            keepSet = from.keepSet;
            System.arraycopy(from.parts, 0, parts, 0, partCount);
            System.arraycopy(from.keyNames, 0, keyNames, 0, keyCount);
            System.arraycopy(from.keyRanks, 0, keyRanks, 0, keyCount);
            System.arraycopy(from.keyStarts, 0, keyStarts, 0, keyCount);
            System.arraycopy(from.keyEnds, 0, keyEnds, 0, keyCount);
            System.arraycopy(from.turnFrom, 0, turnFrom, 0, turnCount);
            System.arraycopy(from.turnTo, 0, turnTo, 0, turnCount);
            System.arraycopy(from.ruleKeys, 0, ruleKeys, 0, ruleCount);
            System.arraycopy(from.itemStarts, 0, itemStarts, 0, ruleCount);
            System.arraycopy(from.itemCounts, 0, itemCounts, 0, ruleCount);
            System.arraycopy(from.answerCounts, 0, answerCounts, 0, answerCounts.length);
            System.arraycopy(from.answerStarts, 0, answerStarts, 0, ANSWER_SLOTS);
            System.arraycopy(from.answerSizes, 0, answerSizes, 0, ANSWER_SLOTS);
            System.arraycopy(from.answerGoes, 0, answerGoes, 0, ANSWER_SLOTS);
        }

        void addTurn(long from, long to) {
            if (turnCount < MOST_TURNS) {
                turnFrom[turnCount] = from;
                turnTo[turnCount] = to;
                turnCount++;
            }
        }

        void addKey(long name, int rank) {
            if (keyCount < MOST_KEYS) {
                keyNames[keyCount] = name;
                keyRanks[keyCount] = rank;
                keyStarts[keyCount] = ruleCount;
                keyEnds[keyCount] = ruleCount;
                keyCount++;
            }
        }

        void addRule(boolean keep) {
            if (ruleCount < MOST_RULES && keyCount > 0) {
                ruleKeys[ruleCount] = keyCount - 1;
                itemStarts[ruleCount] = partCount;
                itemCounts[ruleCount] = 0;
                keepSet |= keep ? 1 << ruleCount : 0;
                ruleCount++;
                keyEnds[keyCount - 1] = ruleCount;
            }
        }

        void addItem(int rule, long item) {
            addPart(item);
            itemCounts[rule]++;
        }

        void openAnswer(int slot) {
            answerStarts[slot] = partCount;
            answerSizes[slot] = 0;
        }

        void addPiece(int slot, long piece) {
            addPart(piece);
            answerSizes[slot]++;
        }

        private void addPart(long part) {
            if (partCount < MOST_TEXT) {
                parts[partCount] = part;
                partCount++;
            }
        }

        int keyNamed(long name) {
            for (int i = 0; i < keyCount; i++) {
                if (keyNames[i] == name) {
                    return i;
                }
            }
            return NONE;
        }

        int turnNamed(long from) {
            for (int i = 0; i < turnCount; i++) {
                if (turnFrom[i] == from) {
                    return i;
                }
            }
            return NONE;
        }

        long turn(long word, int turnOut) {
            for (int i = 0; i < turnCount; i++) {
                if (turnFrom[i] == word) {
                    return i == turnOut ? word : turnTo[i];
                }
            }
            return word;
        }

        int gapsOf(int rule) {
            int gaps = 0;
            for (int i = 0; i < itemCounts[rule]; i++) {
                gaps += parts[itemStarts[rule] + i] < 0 ? 1 : 0;
            }
            return gaps;
        }

        boolean givesBack(int slot) {
            for (int i = 0; i < answerSizes[slot]; i++) {
                if (parts[answerStarts[slot] + i] < 0) {
                    return true;
                }
            }
            return false;
        }
    }

    /** Whose turn it is in each rule (two bits a rule, none's behind them), and what is remembered. */
    private static final class State {
        final Row[] kept = new Row[MOST_REMEMBERED];
        int keptCount = 0;
        long turns = 0;

        State() {
            for (int i = 0; i < kept.length; i++) {
                kept[i] = new Row();
            }
        }

        void refresh() {
            keptCount = 0;
            turns = 0;
        }

        void copy(State from) {
            turns = from.turns;
            keptCount = from.keptCount;
            for (int i = 0; i < keptCount; i++) {
                kept[i].copy(from.kept[i]);
            }
        }

        int nextAnswer(int rule) {
            return (int) (turns >>> 2 * rule & 3);
        }

        int takeAnswer(int rule, int answers) {
            int now = nextAnswer(rule);
            int next = now + 1 < answers ? now + 1 : 0;
            turns = turns & ~(3L << 2 * rule) | (long) next << 2 * rule;
            return now;
        }

        /** The row behind all that is remembered; where all are taken the first one is let go for it. */
        Row rowBehind() {
            if (keptCount < MOST_REMEMBERED) {
                keptCount++;
            } else {
                dropFirst();
            }
            return kept[keptCount - 1];
        }

        void takeFirst(Row into) {
            if (keptCount > 0) {
                into.copy(kept[0]);
                dropFirst();
                keptCount--;
            }
        }

        private void dropFirst() {
            Row first = kept[0];
            for (int i = 0; i + 1 < keptCount; i++) {
                kept[i] = kept[i + 1];
            }
            kept[keptCount - 1] = first;
        }
    }

    /** All that a mark keeps. */
    private static final class Book {
        final Script[] scripts = new Script[MOST_SCRIPTS];
        final State[] states = new State[MOST_SCRIPTS];
        final Row[] lines = new Row[MOST_LINES];
        private final long[] firsts = new long[MOST_COUPLES];
        private final long[] seconds = new long[MOST_COUPLES];
        int lineCount = 0;
        int coupleCount = 0;

        Book() {
            for (int i = 0; i < MOST_SCRIPTS; i++) {
                scripts[i] = new Script();
                states[i] = new State();
            }
            for (int i = 0; i < MOST_LINES; i++) {
                lines[i] = new Row();
            }
        }

        void copy(Book from) {
            for (int i = 0; i < MOST_SCRIPTS; i++) {
                scripts[i].copy(from.scripts[i]);
                states[i].copy(from.states[i]);
            }
            lineCount = from.lineCount;
            for (int i = 0; i < lineCount; i++) {
                lines[i].copy(from.lines[i]);
            }
            coupleCount = from.coupleCount;
            System.arraycopy(from.firsts, 0, firsts, 0, coupleCount);
            System.arraycopy(from.seconds, 0, seconds, 0, coupleCount);
        }

        int addLine(Row line) {
            if (lineCount >= MOST_LINES) {
                return NONE;
            }
            lines[lineCount].copy(line);
            lineCount++;
            return lineCount - 1;
        }

        int addCouple(long first, long second) {
            if (coupleCount < MOST_COUPLES) {
                firsts[coupleCount] = first;
                seconds[coupleCount] = second;
                coupleCount++;
            }
            return coupleCount;
        }

        boolean isBroken(Row row) {
            for (int i = 0; i + 1 < row.size; i++) {
                for (int c = 0; c < coupleCount; c++) {
                    if (row.words[i] == firsts[c] && row.words[i + 1] == seconds[c]) {
                        return true;
                    }
                }
            }
            return false;
        }
    }

    /** A line as a script hears it: which keys are in it, in which order, and which rules fit. No state changes that. */
    private static final class Ear {
        Script script;
        Row line;
        int fitting = 0;
        int present = 0;
        final int[] order = new int[MOST_KEYS];
        int orderCount = 0;
        /** Of each rule that fits its gaps: where each begins and how many words it took. */
        final int[] gaps = new int[MOST_RULES * MOST_ITEMS];
        private final int[] places = new int[MOST_KEYS];
        private final int[] starts = new int[MOST_ITEMS + 1];

        Ear(Script blank, Row silence) {
            script = blank;
            line = silence;
        }

        static int placeIn(int gap) {
            return gap >>> 4;
        }

        static int sizeIn(int gap) {
            return gap & 15;
        }

        void listen(Script to, Row said) {
            script = to;
            line = said;
            present = 0;
            orderCount = 0;
            for (int key = 0; key < script.keyCount; key++) {
                places[key] = line.placeOf(script.keyNames[key]);
                if (places[key] != NONE) {
                    present |= 1 << key;
                    putInOrder(key);
                }
            }
            fitting = 0;
            for (int rule = 0; rule < script.ruleCount; rule++) {
                fitting |= match(rule) ? 1 << rule : 0;
            }
        }

        private void putInOrder(int key) {
            int at = orderCount;
            for (int i = orderCount; i > 0 && isAhead(key, order[i - 1]); i--) {
                order[i] = order[i - 1];
                at = i - 1;
            }
            order[at] = key;
            orderCount++;
        }

        private boolean isAhead(int a, int b) {
            if (script.keyRanks[a] != script.keyRanks[b]) {
                return script.keyRanks[a] > script.keyRanks[b];
            }
            return places[a] < places[b];
        }

        /** From the last item back: at which words (a set of bits) the items from here on can start to take all the rest. */
        private boolean match(int rule) {
            int first = script.itemStarts[rule];
            int count = script.itemCounts[rule];
            starts[count] = 1 << line.size;
            for (int i = count - 1; i >= 0; i--) {
                starts[i] = startsOf(script.parts[first + i], starts[i + 1]);
                if (starts[i] == 0) {
                    return false;
                }
            }
            if ((starts[0] & 1) == 0) {
                return false;
            }
            placeGaps(rule, first, count);
            return true;
        }

        private int startsOf(long item, int next) {
            if (item == ANY_NUMBER) {
                // it can start at any word up to the last one where the next item can
                int all = next | next >>> 1;
                all |= all >>> 2;
                all |= all >>> 4;
                return all | all >>> 8;
            }
            int behind = next >>> 1;
            if (item == ANY_ONE) {
                return behind;
            }
            int starts = 0;
            for (int i = 0; i < line.size; i++) {
                starts |= line.words[i] == item ? 1 << i : 0;
            }
            return starts & behind;
        }

        /** Each gap of any number takes just as few words as let the items behind it take the rest. */
        private void placeGaps(int rule, int first, int count) {
            int at = 0;
            int gap = rule * MOST_ITEMS;
            for (int i = 0; i < count; i++) {
                long item = script.parts[first + i];
                int took = 1;
                if (item == ANY_NUMBER) {
                    took = 0;
                    while (at + took < line.size && (starts[i + 1] >>> at + took & 1) == 0) {
                        took++;
                    }
                }
                if (item < 0) {
                    gaps[gap] = at << 4 | took;
                    gap++;
                }
                at += took;
            }
        }
    }

    /** Says to what an ear heard; rules and a turn may be left out for a while. */
    private static final class Sayer {
        final Row words = new Row();
        /** What is told of the saying, in the order in which how() is asked for it. */
        final int[] told = new int[TOLD];
        int rulesOut = 0;
        int turnOut = NONE;
        private Ear ear;
        private Script script;
        private State state;
        private int fitting = 0;

        Sayer(Ear first, State of) {
            ear = first;
            script = first.script;
            state = of;
        }

        void answer(Ear heard, State of, int[] order, int count) {
            ear = heard;
            script = heard.script;
            state = of;
            fitting = heard.fitting & ~rulesOut;
            words.clear();
            tell(NOTHING, NONE, NONE);
            told[GOES] = 0;
            remember(order, count);
            follow(firstRule(order, count), false);
            if (told[KIND] == NOTHING) {
                follow(sayElse(), true);
            }
        }

        private void tell(int kind, int rule, int answer) {
            told[KIND] = kind;
            told[KEY] = rule == NONE ? NONE : script.ruleKeys[rule];
            told[RULE] = rule;
            told[ANSWER] = answer;
        }

        /** Of the first key alone each keep that fits. */
        private void remember(int[] order, int count) {
            int keeps = fitting & script.keepSet;
            int first = 0;
            while (first < count && first < order.length && !isPresent(order[first])) {
                first++;
            }
            if (keeps == 0 || first >= count || first >= order.length) {
                return;
            }
            int key = order[first];
            for (int rule = script.keyStarts[key]; rule < script.keyEnds[key]; rule++) {
                if ((keeps >>> rule & 1) != 0) {
                    fill(state.rowBehind(), rule, rule * MOST_ANSWERS);
                }
            }
        }

        /** Key by key the first when that fits. */
        private int firstRule(int[] order, int count) {
            int rule = NONE;
            for (int i = 0; i < count && i < order.length && rule == NONE; i++) {
                if (isPresent(order[i])) {
                    rule = firstWhen(order[i]);
                }
            }
            return rule;
        }

        private boolean isPresent(int key) {
            return (ear.present >>> key & 1) != 0;
        }

        private int firstWhen(int key) {
            int whens = fitting & ~script.keepSet;
            for (int rule = script.keyStarts[key]; rule < script.keyEnds[key]; rule++) {
                if ((whens >>> rule & 1) != 0) {
                    return rule;
                }
            }
            return NONE;
        }

        /** From a rule on, from go to go, till an answer comes or nothing fits further. */
        private void follow(int from, boolean byGo) {
            int rule = from;
            boolean led = byGo;
            for (int step = 0; step <= MOST_GOES && rule != NONE; step++) {
                int answer = state.takeAnswer(rule, script.answerCounts[rule]);
                int slot = rule * MOST_ANSWERS + answer;
                int key = script.answerGoes[slot];
                if (key == NONE) {
                    fill(words, rule, slot);
                    tell(led ? BY_GO : script.givesBack(slot) ? WITH_GAP : WITHOUT_GAP, rule, answer);
                    return;
                }
                rule = goTo(key);
                led = true;
            }
        }

        private int goTo(int key) {
            if (told[GOES] >= MOST_GOES) {
                return NONE;
            }
            told[GOES]++;
            return firstWhen(key);
        }

        /** Says what is remembered, or none's answer; if that is a go, the rule to which it leads is left to follow. */
        private int sayElse() {
            if (state.keptCount > 0) {
                state.takeFirst(words);
                tell(FROM_MEMORY, NONE, NONE);
                return NONE;
            }
            if (script.answerCounts[NONE_RULE] == 0) {
                return NONE;
            }
            int answer = state.takeAnswer(NONE_RULE, script.answerCounts[NONE_RULE]);
            int slot = NONE_RULE * MOST_ANSWERS + answer;
            if (script.answerGoes[slot] != NONE) {
                return goTo(script.answerGoes[slot]);
            }
            fill(words, NONE_RULE, slot);
            tell(BY_NONE, NONE, answer);
            return NONE;
        }

        private void fill(Row into, int rule, int slot) {
            into.clear();
            int start = script.answerStarts[slot];
            for (int i = 0; i < script.answerSizes[slot]; i++) {
                long piece = script.parts[start + i];
                if (piece > 0) {
                    into.add(piece);
                    continue;
                }
                int place = rule * MOST_ITEMS - (int) piece - 1;
                int gap = place < ear.gaps.length ? ear.gaps[place] : 0;
                int from = Ear.placeIn(gap);
                for (int k = 0; k < Ear.sizeIn(gap); k++) {
                    into.add(script.turn(ear.line.at(from + k), turnOut));
                }
            }
        }
    }

    /** The latest talk. */
    private static final class Talk {
        final Row[] lines = new Row[MOST_SAYINGS];
        final Row[] sayings = new Row[MOST_SAYINGS];
        final boolean[] unread = new boolean[MOST_SAYINGS];
        private final int[] kinds = new int[MOST_SAYINGS];
        int size = 0;

        Talk() {
            for (int i = 0; i < MOST_SAYINGS; i++) {
                lines[i] = new Row();
                sayings[i] = new Row();
            }
        }

        void clear() {
            size = 0;
        }

        void add(Row line, Row saying, int kind) {
            if (size < MOST_SAYINGS) {
                lines[size].copy(line);
                sayings[size].copy(saying);
                kinds[size] = kind;
                unread[size] = false;
                size++;
            }
        }

        int ofKind(int kind) {
            int times = 0;
            for (int i = 0; i < size; i++) {
                times += kinds[i] == kind ? 1 : 0;
            }
            return times;
        }

        int firstOfKinds(int set) {
            for (int i = 0; i < size; i++) {
                if ((set >>> kinds[i] & 1) != 0) {
                    return i;
                }
            }
            return NONE;
        }

        /** How often a saying was said ahead of it; nothing is never said. */
        private int timesBefore(int k) {
            int times = 0;
            for (int i = 0; i < k && kinds[k] != NOTHING; i++) {
                times += kinds[i] != NOTHING && sayings[i].same(sayings[k]) ? 1 : 0;
            }
            return times;
        }

        int firstSaidBefore(int times) {
            for (int i = 0; i < size; i++) {
                if (timesBefore(i) >= times) {
                    return i;
                }
            }
            return NONE;
        }

        int repeats() {
            int repeats = 0;
            for (int i = 0; i < size; i++) {
                repeats += timesBefore(i) > 0 ? 1 : 0;
            }
            return repeats;
        }

        int firstBroken(Book book) {
            for (int i = 0; i < size; i++) {
                if (book.isBroken(sayings[i])) {
                    return i;
                }
            }
            return NONE;
        }

        int timesRead(long word) {
            int times = 0;
            for (int i = 0; i < size; i++) {
                times += unread[i] ? 0 : lines[i].timesOf(word) + sayings[i].timesOf(word);
            }
            return times;
        }
    }

    /** What two scripts face to face had at each turn: the line and the states of both, laid in one row. */
    private static final class Past {
        private static final int STATE_SIZE = 2 + MOST_REMEMBERED * (MOST_WORDS + 1);
        private static final int MOMENT_SIZE = MOST_WORDS + 1 + 2 * STATE_SIZE;
        /** One ahead of each saying, and one behind the last. */
        private static final int MOST_MOMENTS = MOST_TURNS_ABOUT + 1;
        private final long[] held = new long[MOST_MOMENTS * MOMENT_SIZE];
        private final int[] ends = new int[MOST_MOMENTS + 1];
        private int moments = 0;
        private int end = 0;

        void clear() {
            moments = 0;
            end = 0;
        }

        void add(Row line, State one, State other) {
            if (moments < MOST_MOMENTS) {
                lay(one.turns);
                lay(other.turns);
                layRow(line);
                layKept(one);
                layKept(other);
                moments++;
                ends[moments] = end;
            }
        }

        private void lay(long number) {
            if (end < held.length) {
                held[end] = number;
                end++;
            }
        }

        private void layRow(Row row) {
            lay(row.size);
            for (int i = 0; i < row.size; i++) {
                lay(row.words[i]);
            }
        }

        private void layKept(State state) {
            lay(state.keptCount);
            for (int i = 0; i < state.keptCount; i++) {
                layRow(state.kept[i]);
            }
        }

        /** The earlier moment that was just as the latest one; every other moment is the same one's to say. */
        int likeLatest() {
            for (int i = moments - 3; i >= 0; i -= 2) {
                if (isLikeLatest(i)) {
                    return i;
                }
            }
            return NONE;
        }

        private boolean isLikeLatest(int moment) {
            int from = ends[moment];
            int size = ends[moment + 1] - from;
            int last = ends[moments - 1];
            if (size != end - last) {
                return false;
            }
            for (int i = 0; i < size; i++) {
                if (held[from + i] != held[last + i]) {
                    return false;
                }
            }
            return true;
        }
    }

    /** Says over and over, in states of its own, to find what was asked for. */
    private static final class Search {
        final Sayer sayer;
        final Ear[] ears = new Ear[MOST_LINES];
        final int[] path = new int[MOST_LED];
        final int[] led = new int[MOST_LED];
        int ledSize = 0;
        int ringAhead = NONE;
        int ringSize = NONE;
        int mendCount = 0;
        int mendFirst = NONE;
        int leastRules = NONE;
        int orderedKeys = NONE;
        final int[] aheads = new int[MOST_ORDERED_KEYS * MOST_ORDERED_KEYS];
        private final State[] states = new State[MOST_LED + 1];
        private final Row[] wanted = new Row[MOST_SAYINGS];
        private final int[] order = new int[MOST_ORDERED_KEYS];
        private final Row heardLast = new Row();
        /** The greatest row by far, so made only when two scripts first meet. */
        private Past past = null;

        Search() {
            Script blank = new Script();
            Row silence = new Row();
            for (int i = 0; i < ears.length; i++) {
                ears[i] = new Ear(blank, silence);
            }
            for (int i = 0; i < states.length; i++) {
                states[i] = new State();
            }
            for (int i = 0; i < wanted.length; i++) {
                wanted[i] = new Row();
            }
            sayer = new Sayer(ears[0], states[0]);
        }

        void hold(Talk talk, int many) {
            talk.clear();
            states[0].refresh();
            for (int i = 0; i < many; i++) {
                Ear ear = ears[i];
                sayer.answer(ear, states[0], ear.order, ear.orderCount);
                talk.add(ear.line, sayer.words, sayer.told[KIND]);
            }
        }

        int shortest(int many, Row goal) {
            states[0].refresh();
            for (int size = 1; size <= MOST_LED; size++) {
                if (reach(0, size, many, goal)) {
                    return size;
                }
            }
            return NONE;
        }

        /** Tries all rows of so many more lines; the depth is at most that of the longest row. */
        private boolean reach(int depth, int size, int many, Row goal) {
            if (depth >= size || depth >= MOST_LED) {
                return false;
            }
            State next = states[depth + 1];
            for (int i = 0; i < many; i++) {
                Ear ear = ears[i];
                path[depth] = i;
                next.copy(states[depth]);
                sayer.answer(ear, next, ear.order, ear.orderCount);
                boolean there = depth + 1 == size
                        ? sayer.words.same(goal) : reach(depth + 1, size, many, goal);
                if (there) {
                    return true;
                }
            }
            return false;
        }

        int meet(Script one, Script other, Row line, int most) {
            State first = states[0];
            State second = states[1];
            Ear ear = ears[0];
            first.refresh();
            second.refresh();
            ringAhead = NONE;
            ringSize = NONE;
            if (past == null) {
                past = new Past();
            }
            past.clear();
            heardLast.copy(line);
            past.add(heardLast, first, second);
            for (int done = 1; done <= most && ringSize == NONE; done++) {
                boolean byOther = done % 2 == 0;
                ear.listen(byOther ? other : one, heardLast);
                sayer.answer(ear, byOther ? second : first, ear.order, ear.orderCount);
                heardLast.copy(sayer.words);
                past.add(heardLast, first, second);
                closeRing(past.likeLatest(), done);
            }
            return ringSize == NONE ? most : ringAhead + ringSize;
        }

        /** A ring is there as soon as its sayings are done: behind the last one allowed, too. */
        private void closeRing(int like, int done) {
            if (like != NONE) {
                ringAhead = like;
                ringSize = done - like;
            }
        }

        int firstBroke(Book book, int many) {
            for (int i = 0; i < many; i++) {
                Ear ear = ears[i];
                states[0].refresh();
                sayer.answer(ear, states[0], ear.order, ear.orderCount);
                if (book.isBroken(sayer.words)) {
                    return i;
                }
            }
            return NONE;
        }

        void mendByRules(Book book, int many, int rules) {
            mendCount = 0;
            mendFirst = NONE;
            for (int rule = 0; rule < rules; rule++) {
                sayer.rulesOut = 1 << rule;
                countMend(rule, firstBroke(book, many));
            }
            sayer.rulesOut = 0;
        }

        void mendByTurns(Book book, int many, int turns) {
            mendCount = 0;
            mendFirst = NONE;
            for (int turn = 0; turn < turns; turn++) {
                sayer.turnOut = turn;
                countMend(turn, firstBroke(book, many));
            }
            sayer.turnOut = NONE;
        }

        private void countMend(int which, int stillBroke) {
            if (stillBroke == NONE) {
                mendCount++;
                mendFirst = mendFirst == NONE ? which : mendFirst;
            }
        }

        int fewest(int many, int rules) {
            int useful = 0;
            states[0].refresh();
            for (int i = 0; i < many; i++) {
                Ear ear = ears[i];
                useful |= ear.fitting;
                sayer.answer(ear, states[0], ear.order, ear.orderCount);
                wanted[i].copy(sayer.words);
            }
            int sets = 1 << rules;
            for (int size = 0; size <= rules; size++) {
                for (int set = 0; set < sets; set++) {
                    // a rule that fits none of the lines is in no fewest set
                    if (Integer.bitCount(set) == size && (set & ~useful) == 0 && saysWanted(many, ~set)) {
                        leastRules = set;
                        return size;
                    }
                }
            }
            return NONE;
        }

        private boolean saysWanted(int many, int rulesOut) {
            boolean same = true;
            sayer.rulesOut = rulesOut;
            states[0].refresh();
            for (int i = 0; i < many && same; i++) {
                Ear ear = ears[i];
                sayer.answer(ear, states[0], ear.order, ear.orderCount);
                same = sayer.words.same(wanted[i]);
            }
            sayer.rulesOut = 0;
            return same;
        }

        int tryOrders(Talk talk, int keys) {
            int found = 0;
            orderedKeys = keys;
            for (int i = 0; i < aheads.length; i++) {
                aheads[i] = 0;
            }
            int orders = 1;
            for (int key = 0; key < keys; key++) {
                order[key] = key;
                orders *= key + 1;
            }
            for (int i = 0; i < orders; i++) {
                if (saysTalk(talk, keys)) {
                    found++;
                    countAheads(keys);
                }
                nextOrder(keys);
            }
            return found;
        }

        private boolean saysTalk(Talk talk, int keys) {
            states[0].refresh();
            for (int i = 0; i < talk.size; i++) {
                sayer.answer(ears[i], states[0], order, keys);
                if (!sayer.words.same(talk.sayings[i])) {
                    return false;
                }
            }
            return true;
        }

        private void countAheads(int keys) {
            for (int i = 0; i < keys; i++) {
                for (int k = i + 1; k < keys; k++) {
                    aheads[order[i] * MOST_ORDERED_KEYS + order[k]]++;
                }
            }
        }

        /** The next order of the keys, as numbers are ordered digit by digit. */
        private void nextOrder(int keys) {
            int at = keys - 2;
            while (at >= 0 && order[at] > order[at + 1]) {
                at--;
            }
            if (at < 0) {
                return;
            }
            int with = keys - 1;
            while (with > at && order[with] < order[at]) {
                with--;
            }
            swap(at, with);
            for (int low = at + 1, high = keys - 1; low < high; low++, high--) {
                swap(low, high);
            }
        }

        private void swap(int a, int b) {
            int held = order[a];
            order[a] = order[b];
            order[b] = held;
        }
    }
}
