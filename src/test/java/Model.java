import java.math.BigInteger;
import java.util.ArrayDeque;
import java.util.ArrayList;
import java.util.Arrays;
import java.util.Collections;
import java.util.Deque;
import java.util.HashSet;
import java.util.List;
import java.util.Set;
import java.util.TreeMap;
import java.util.regex.Matcher;
import java.util.regex.Pattern;

/** The document written a second time, plainly and with the Java library: words are texts, all is searched through. */
public final class Model {
    private static final Set<String> RESERVED =
            Set.of("turn", "key", "rank", "when", "say", "keep", "none", "or", "go");

    static final class Fault extends Exception {
        private static final long serialVersionUID = 1L;
        final int kind;
        final int place;

        Fault(int kind, int place) {
            this.kind = kind;
            this.place = place;
        }
    }

    static final class Rule {
        int key;
        boolean keep;
        List<String> items = new ArrayList<>();
        List<List<String>> answers = new ArrayList<>();
    }

    static final class Script {
        List<String[]> turns = new ArrayList<>();
        List<String> keys = new ArrayList<>();
        List<Integer> ranks = new ArrayList<>();
        List<Rule> rules = new ArrayList<>();
        List<List<String>> none = null;

        String turned(String word, int without) {
            for (int i = 0; i < turns.size(); i++) {
                if (i != without && turns.get(i)[0].equals(word)) {
                    return turns.get(i)[1];
                }
            }
            return word;
        }
    }

    static final class State {
        int[] next = new int[25];
        List<List<String>> memory = new ArrayList<>();

        State copy() {
            State c = new State();
            c.next = next.clone();
            c.memory = new ArrayList<>(memory);
            return c;
        }

        public String toString() {
            return Arrays.toString(next) + memory;
        }
    }

    static final class Saying {
        List<String> words = new ArrayList<>();
        int kind = 5;
        int key = -1;
        int rule = -1;
        int answer = -1;
        int goes = 0;
    }

    /** What a mark keeps; scripts, lines and couples never change once made, so the lists alone are copied. */
    static final class World {
        List<Script> scripts = new ArrayList<>(List.of(new Script(), new Script(), new Script()));
        List<State> states = new ArrayList<>(List.of(new State(), new State(), new State()));
        List<List<String>> lines = new ArrayList<>();
        List<List<String>> couples = new ArrayList<>();

        World copy() {
            World c = new World();
            c.scripts = new ArrayList<>(scripts);
            c.states = new ArrayList<>();
            for (State s : states) {
                c.states.add(s.copy());
            }
            c.lines = new ArrayList<>(lines);
            c.couples = new ArrayList<>(couples);
            return c;
        }

        boolean breaks(List<String> words) {
            for (int i = 1; i < words.size(); i++) {
                if (couples.contains(words.subList(i - 1, i + 1))) {
                    return true;
                }
            }
            return false;
        }
    }

    private int status = 0;
    private BigInteger top = BigInteger.ZERO;
    private BigInteger bottom = BigInteger.ONE;
    private final long[][] trays = new long[4][];
    private final int[] sorts = new int[4];
    private final StringBuilder tape = new StringBuilder();
    private int faultKind = -1;
    private int faultPlace = -1;
    private World now = new World();
    private final Deque<World> marks = new ArrayDeque<>();
    private List<int[]> fitGaps = null;
    private Saying latest = null;
    private List<List<String>> talkLines = new ArrayList<>();
    private List<Saying> talkSaid = new ArrayList<>();
    private Set<Integer> unread = new HashSet<>();
    private List<Integer> ledLines = new ArrayList<>();
    private int[] ring = null;
    private int leastSet = -1;
    private int orderedKeys = -1;
    private List<List<Integer>> goodOrders = new ArrayList<>();

    public int status() {
        return status;
    }

    public long top() {
        return top.longValueExact();
    }

    public long bottom() {
        return bottom.longValueExact();
    }

    private int no(int why) {
        status = why;
        return -1;
    }

    private boolean not(int why) {
        status = why;
        return false;
    }

    private int yes(int answer) {
        status = 0;
        return answer;
    }

    private boolean truly() {
        status = 0;
        return true;
    }

    private static boolean in(long v, long low, long high) {
        return v >= low && v <= high;
    }

    static long number(String word) {
        long v = 0;
        for (char c : word.toCharArray()) {
            v = v * 32 + (c - 'a' + 1);
        }
        return v;
    }

    /** The word of a number, or null. */
    static String wordOf(long v) {
        String w = "";
        for (long r = v; r > 0; r /= 32) {
            w = (char) ('a' - 1 + r % 32) + w;
        }
        return w.matches("[a-z]{1,8}") ? w : null;
    }

    public boolean tray(int tray, int sort, int many) {
        if (!in(tray, 0, 3) || !in(sort, 0, 3) || !in(many, 0, 60)) {
            return not(1);
        }
        trays[tray] = new long[many];
        sorts[tray] = sort;
        return truly();
    }

    public boolean write(int tray, int place, long v) {
        if (!in(tray, 0, 3)) {
            return not(1);
        }
        if (trays[tray] == null) {
            return not(2);
        }
        if (!in(place, 0, trays[tray].length - 1)) {
            return not(3);
        }
        int bits = 8 << sorts[tray];
        trays[tray][place] = v << 64 - bits >> 64 - bits;
        return truly();
    }

    public long read(int tray, int place) {
        if (!in(tray, 0, 3)) {
            return no(1);
        }
        if (trays[tray] == null) {
            return no(2);
        }
        if (!in(place, 0, trays[tray].length - 1)) {
            return no(3);
        }
        status = 0;
        return trays[tray][place];
    }

    public boolean pour(int from, int place, int to, int at, int many) {
        if (!in(from, 0, 3) || !in(to, 0, 3) || place < 0 || at < 0 || many < 0) {
            return not(1);
        }
        if (trays[from] == null || trays[to] == null) {
            return not(2);
        }
        if (sorts[from] != sorts[to]) {
            return not(8);
        }
        if ((long) place + many > trays[from].length || (long) at + many > trays[to].length) {
            return not(3);
        }
        long[] as = trays[from].clone();
        for (int i = 0; i < many; i++) {
            trays[to][at + i] = as[place + i];
        }
        return truly();
    }

    public int feed(int a, int b, int c, int d, int e) {
        if (tape.length() > 580) {
            return -1;
        }
        for (int v : new int[] {a, b, c, d, e}) {
            tape.append((char) (v >> 24 & 255)).append((char) (v >> 16 & 255));
            tape.append((char) (v >> 8 & 255)).append((char) (v & 255));
        }
        return tape.length();
    }

    public int line(int n) {
        if (n < 0 || n > tape.length() || n > 120) {
            return no(1);
        }
        String text = tape.substring(0, n);
        TreeMap<Integer, Integer> faults = new TreeMap<>();
        List<String> words = new ArrayList<>();
        Matcher m = Pattern.compile("[a-z]+|[^a-z \n]", Pattern.DOTALL).matcher(text);
        while (m.find()) {
            if (!m.group().matches("[a-z]+")) {
                faults.put(m.start(), 1);
                continue;
            }
            words.add(m.group());
            if (m.group().length() > 8) {
                faults.put(m.start(), 2);
            } else if (words.size() == 13) {
                faults.put(m.start(), 3);
            }
        }
        faultKind = faults.isEmpty() ? 0 : faults.firstEntry().getValue();
        faultPlace = faults.isEmpty() ? -1 : faults.firstKey();
        if (!faults.isEmpty()) {
            tape.setLength(0);
            return no(9);
        }
        if (now.lines.size() == 16) {
            return no(4);
        }
        tape.setLength(0);
        now.lines.add(words);
        return yes(now.lines.size() - 1);
    }

    public int script(int script, int n) {
        if (!in(script, 0, 2) || n < 0 || n > tape.length()) {
            return no(1);
        }
        String text = tape.substring(0, n);
        tape.setLength(0);
        faultKind = 0;
        faultPlace = -1;
        try {
            now.scripts.set(script, new Parse(text).script());
        } catch (Fault f) {
            faultKind = f.kind;
            faultPlace = f.place;
            return no(9);
        }
        now.states.set(script, new State());
        return yes(now.scripts.get(script).rules.size());
    }

    static final class Parse {
        private final List<String> tokens = new ArrayList<>();
        private final List<Integer> places = new ArrayList<>();
        private final List<String> goNames = new ArrayList<>();
        private final List<Integer> goPlaces = new ArrayList<>();
        private final Script s = new Script();
        private int i = 0;

        Parse(String text) {
            Matcher m = Pattern.compile("[a-z]+|[0-9]+|[^ \n]", Pattern.DOTALL).matcher(text);
            while (m.find()) {
                tokens.add(m.group());
                places.add(m.start());
            }
            tokens.add("");
            places.add(text.length());
        }

        private String t() {
            return tokens.get(i);
        }

        private Fault fault(int kind) {
            return new Fault(t().matches("|[a-z]+|[0-9][0-9]?|[;*?]") ? kind : 1, places.get(i));
        }

        private boolean name() {
            return t().matches("[a-z]{1,8}") && !RESERVED.contains(t());
        }

        private boolean digits() {
            return t().matches("[0-9]{1,2}");
        }

        private String take(boolean fine) throws Fault {
            if (!fine) {
                throw fault(2);
            }
            return tokens.get(i++);
        }

        Script script() throws Fault {
            while (!t().isEmpty()) {
                part();
            }
            for (int g = 0; g < goNames.size(); g++) {
                if (!s.keys.contains(goNames.get(g))) {
                    throw new Fault(6, goPlaces.get(g));
                }
            }
            return s;
        }

        private void part() throws Fault {
            switch (t()) {
                case "turn" -> turn();
                case "key" -> key();
                case "when", "keep" -> rule();
                case "none" -> none();
                default -> throw fault(2);
            }
            take(t().equals(";"));
        }

        private void turn() throws Fault {
            if (s.turns.size() == 12) {
                throw fault(5);
            }
            i++;
            for (String[] turn : s.turns) {
                if (turn[0].equals(t())) {
                    throw fault(3);
                }
            }
            String from = take(name());
            s.turns.add(new String[] {from, take(name())});
        }

        private void key() throws Fault {
            if (s.keys.size() == 12) {
                throw fault(5);
            }
            i++;
            if (s.keys.contains(t())) {
                throw fault(3);
            }
            s.keys.add(take(name()));
            take(t().equals("rank"));
            s.ranks.add(Integer.parseInt(take(digits())));
        }

        private void rule() throws Fault {
            if (s.keys.isEmpty()) {
                throw fault(4);
            }
            if (s.rules.size() == 24) {
                throw fault(5);
            }
            Rule r = new Rule();
            r.keep = t().equals("keep");
            r.key = s.keys.size() - 1;
            s.rules.add(r);
            i++;
            int gaps = 0;
            do {
                boolean gap = t().equals("*") || t().equals("?");
                if (r.items.size() == 8 && (gap || name())) {
                    throw fault(5);
                }
                gaps += gap ? 1 : 0;
                r.items.add(take(gap || name()));
            } while (!t().equals("say"));
            i++;
            answers(r.answers, gaps, r.keep);
        }

        private void none() throws Fault {
            if (s.none != null) {
                throw fault(4);
            }
            i++;
            s.none = new ArrayList<>();
            answers(s.none, 0, false);
        }

        private void answers(List<List<String>> into, int gaps, boolean keep) throws Fault {
            into.add(answer(gaps, keep));
            while (t().equals("or") && !keep) {
                if (into.size() == 4) {
                    throw fault(5);
                }
                i++;
                into.add(answer(gaps, false));
            }
        }

        private List<String> answer(int gaps, boolean keep) throws Fault {
            List<String> a = new ArrayList<>();
            if (t().equals("go") && !keep) {
                a.add("go");
                i++;
                goPlaces.add(places.get(i));
                goNames.add(t());
                a.add(take(name()));
                return a;
            }
            do {
                if (digits() && !in(Integer.parseInt(t()), 1, gaps)) {
                    throw fault(4);
                }
                if (a.size() == 10 && (digits() || name())) {
                    throw fault(5);
                }
                a.add(take(digits() || name()));
            } while (digits() || name() || !t().equals(";") && !t().equals("or"));
            return a;
        }
    }

    public int fault(int what) {
        return what == 0 ? faultKind : what == 1 ? faultPlace : -1;
    }

    public int many(int what) {
        return switch (what) {
            case 0 -> yes(now.lines.size());
            case 1 -> yes(now.couples.size());
            case 2 -> yes(talkSaid.size());
            default -> no(1);
        };
    }

    private long tell(List<String> words, int k) {
        if (k >= words.size()) {
            return no(6);
        }
        status = 0;
        return k == -1 ? words.size() : number(words.get(k));
    }

    private boolean line0(long line) {
        return in(line, 0, now.lines.size() - 1);
    }

    private boolean rule0(int script, int rule) {
        return in(script, 0, 2) && in(rule, 0, now.scripts.get(script).rules.size() - 1);
    }

    public long word(int line, int k) {
        return !line0(line) || k < -1 ? no(1) : tell(now.lines.get(line), k);
    }

    public int count(int script, int what) {
        if (!in(script, 0, 2) || !in(what, 0, 3)) {
            return no(1);
        }
        Script s = now.scripts.get(script);
        return yes(List.of(s.keys.size(), s.rules.size(), s.turns.size(), now.states.get(script).memory.size())
                .get(what));
    }

    public int rule(int script, int rule, int what) {
        if (!rule0(script, rule) || !in(what, 0, 3)) {
            return no(1);
        }
        Rule r = now.scripts.get(script).rules.get(rule);
        return yes(List.of(r.key, r.keep ? 1 : 0, r.answers.size(), now.states.get(script).next[rule]).get(what));
    }

    /** The gaps of the first way that fits, or null: each * is tried with fewest words first. */
    static List<int[]> fits(List<String> items, int i, List<String> line, int at) {
        if (i == items.size()) {
            return at == line.size() ? new ArrayList<>() : null;
        }
        String item = items.get(i);
        boolean star = item.equals("*");
        boolean gap = star || item.equals("?");
        for (int took = star ? 0 : 1; took <= (star ? line.size() : 1) && at + took <= line.size(); took++) {
            if (!gap && !line.get(at).equals(item)) {
                continue;
            }
            List<int[]> rest = fits(items, i + 1, line, at + took);
            if (rest != null) {
                if (gap) {
                    rest.add(0, new int[] {at, took});
                }
                return rest;
            }
        }
        return null;
    }

    public int fit(int script, int rule, int line) {
        if (!rule0(script, rule) || !line0(line)) {
            return no(1);
        }
        List<int[]> found = fits(now.scripts.get(script).rules.get(rule).items, 0, now.lines.get(line), 0);
        fitGaps = found == null ? fitGaps : found;
        return yes(found == null ? 0 : 1);
    }

    public int gap(int k, int what) {
        if (k < 1 || !in(what, 0, 1)) {
            return no(1);
        }
        return fitGaps == null || k > fitGaps.size() ? no(6) : yes(fitGaps.get(k - 1)[what]);
    }

    public long turned(int script, long word) {
        if (!in(script, 0, 2) || wordOf(word) == null) {
            return no(1);
        }
        status = 0;
        return number(now.scripts.get(script).turned(wordOf(word), -1));
    }

    public boolean begin(int script) {
        if (!in(script, 0, 2)) {
            return not(1);
        }
        now.states.set(script, new State());
        return truly();
    }

    /** One saying of a script, with rules and a turn left out. */
    static final class Speak {
        final Script s;
        final State st;
        final List<String> line;
        final Set<Integer> out;
        final int turnOut;
        final Saying said = new Saying();

        Speak(Script s, State st, List<String> line, Set<Integer> out, int turnOut) {
            this.s = s;
            this.st = st;
            this.line = line;
            this.out = out;
            this.turnOut = turnOut;
        }

        private List<int[]> gaps(int rule) {
            return out.contains(rule) ? null : fits(s.rules.get(rule).items, 0, line, 0);
        }

        private List<String> made(List<String> answer, List<int[]> gaps) {
            List<String> all = new ArrayList<>();
            for (String piece : answer) {
                if (Character.isDigit(piece.charAt(0))) {
                    int[] g = gaps.get(Integer.parseInt(piece) - 1);
                    for (String w : line.subList(g[0], g[0] + g[1])) {
                        all.add(s.turned(w, turnOut));
                    }
                } else {
                    all.add(piece);
                }
            }
            return new ArrayList<>(all.subList(0, Math.min(12, all.size())));
        }

        private int when(int key) {
            for (int r = 0; r < s.rules.size(); r++) {
                if (s.rules.get(r).key == key && !s.rules.get(r).keep && gaps(r) != null) {
                    return r;
                }
            }
            return -1;
        }

        private int turnOf(int slot, int answers) {
            int a = st.next[slot];
            st.next[slot] = (a + 1) % answers;
            return a;
        }

        private boolean answered(int rule, boolean led) {
            if (rule < 0) {
                return false;
            }
            Rule r = s.rules.get(rule);
            int a = turnOf(rule, r.answers.size());
            List<String> answer = r.answers.get(a);
            if (answer.get(0).equals("go")) {
                return gone(answer.get(1));
            }
            said.words = made(answer, gaps(rule));
            said.kind = led ? 2 : answer.stream().anyMatch(p -> p.matches("[0-9]+")) ? 0 : 1;
            said.key = r.key;
            said.rule = rule;
            said.answer = a;
            return true;
        }

        private boolean gone(String to) {
            if (said.goes == 8) {
                return false;
            }
            said.goes++;
            return answered(when(s.keys.indexOf(to)), true);
        }

        Saying say() {
            List<Integer> keys = new ArrayList<>();
            for (int k = 0; k < s.keys.size(); k++) {
                if (line.contains(s.keys.get(k))) {
                    keys.add(k);
                }
            }
            keys.sort((a, b) -> !s.ranks.get(a).equals(s.ranks.get(b)) ? s.ranks.get(b) - s.ranks.get(a)
                    : line.indexOf(s.keys.get(a)) - line.indexOf(s.keys.get(b)));
            for (int r = 0; r < s.rules.size(); r++) {
                Rule rule = s.rules.get(r);
                if (!keys.isEmpty() && rule.key == keys.get(0) && rule.keep && gaps(r) != null) {
                    st.memory.add(made(rule.answers.get(0), gaps(r)));
                    if (st.memory.size() > 6) {
                        st.memory.remove(0);
                    }
                }
            }
            for (int k : keys) {
                if (when(k) >= 0) {
                    if (answered(when(k), false)) {
                        return said;
                    }
                    break;
                }
            }
            if (!st.memory.isEmpty()) {
                said.words = st.memory.remove(0);
                said.kind = 3;
            } else if (s.none != null) {
                int a = turnOf(24, s.none.size());
                List<String> answer = s.none.get(a);
                if (answer.get(0).equals("go")) {
                    gone(answer.get(1));
                } else {
                    said.words = made(answer, null);
                    said.kind = 4;
                    said.answer = a;
                }
            }
            return said;
        }
    }

    private static Saying speak(Script s, State st, List<String> line) {
        return new Speak(s, st, line, Set.of(), -1).say();
    }

    public int say(int script, int line) {
        if (!in(script, 0, 2) || !line0(line)) {
            return no(1);
        }
        latest = speak(now.scripts.get(script), now.states.get(script), now.lines.get(line));
        return yes(latest.words.size());
    }

    public long said(int k) {
        return k < 0 ? no(1) : latest == null ? no(6) : tell(latest.words, k);
    }

    public int how(int what) {
        if (!in(what, 0, 4)) {
            return no(1);
        }
        if (latest == null) {
            return no(6);
        }
        int v = List.of(latest.kind, latest.key, latest.rule, latest.answer, latest.goes).get(what);
        return v == -1 ? no(6) : yes(v);
    }

    public long remembered(int script, int k, int i) {
        if (!in(script, 0, 2) || k < 0 || i < -1) {
            return no(1);
        }
        List<List<String>> memory = now.states.get(script).memory;
        return k >= memory.size() ? no(6) : tell(memory.get(k), i);
    }

    private int trayWrong(int tray, int many) {
        if (trays[tray] == null) {
            return 2;
        }
        if (trays[tray].length < many) {
            return 3;
        }
        for (int i = 0; i < many; i++) {
            if (!line0(trays[tray][i])) {
                return 1;
            }
        }
        return 0;
    }

    private int wrong(int script, int tray, int many, int most) {
        return !in(script, 0, 2) || !in(tray, 0, 3) || !in(many, 1, most) ? 1 : trayWrong(tray, many);
    }

    private List<List<String>> trayLines(int tray, int many) {
        List<List<String>> all = new ArrayList<>();
        for (int i = 0; i < many; i++) {
            all.add(now.lines.get((int) trays[tray][i]));
        }
        return all;
    }

    public int talk(int script, int tray, int many) {
        int wrong = wrong(script, tray, many, 15);
        if (wrong != 0) {
            return no(wrong);
        }
        talkLines = trayLines(tray, many);
        talkSaid = new ArrayList<>();
        unread = new HashSet<>();
        State st = new State();
        for (List<String> line : talkLines) {
            talkSaid.add(speak(now.scripts.get(script), st, line));
        }
        return yes((int) talkSaid.stream().filter(s -> s.kind == 0).count());
    }

    public long spoken(int k, int what) {
        if (k < 0 || !in(what, -1, 11)) {
            return no(1);
        }
        return k >= talkSaid.size() ? no(6) : tell(talkSaid.get(k).words, what);
    }

    public int lead(int script, int tray, int many, int line) {
        if (!line0(line)) {
            return no(1);
        }
        int wrong = wrong(script, tray, many, 6);
        if (wrong != 0) {
            return no(wrong);
        }
        for (int size = 1; size <= 5; size++) {
            int rows = (int) Math.pow(many, size);
            for (int row = 0; row < rows; row++) {
                State st = new State();
                List<Integer> picked = new ArrayList<>();
                for (int i = 0, rest = row; i < size; i++, rest /= many) {
                    picked.add(0, (int) trays[tray][rest % many]);
                }
                List<String> words = null;
                for (int p : picked) {
                    words = speak(now.scripts.get(script), st, now.lines.get(p)).words;
                }
                if (words.equals(now.lines.get(line))) {
                    ledLines = picked;
                    return yes(size);
                }
            }
        }
        return no(6);
    }

    public int led(int k) {
        return k < 0 ? no(1) : k >= ledLines.size() ? no(6) : yes(ledLines.get(k));
    }

    public int face(int one, int other, int line, int most) {
        if (!in(one, 0, 2) || !in(other, 0, 2) || !line0(line) || !in(most, 1, 200)) {
            return no(1);
        }
        Script[] who = {now.scripts.get(one), now.scripts.get(other)};
        State[] states = {new State(), new State()};
        List<String> seen = new ArrayList<>();
        List<String> words = now.lines.get(line);
        ring = null;
        for (int done = 0; done <= most; done++) {
            String moment = done % 2 + "/" + words + states[0] + states[1];
            if (seen.contains(moment)) {
                ring = new int[] {seen.indexOf(moment), done - seen.indexOf(moment)};
                return yes(done);
            }
            seen.add(moment);
            words = speak(who[done % 2], states[done % 2], words).words;
        }
        return yes(most);
    }

    public int ring(int what) {
        return !in(what, 0, 1) ? no(1) : ring == null ? no(6) : yes(ring[what]);
    }

    public int broken(long a, long b) {
        if (wordOf(a) == null || wordOf(b) == null) {
            return no(1);
        }
        if (now.couples.size() == 12) {
            return no(4);
        }
        now.couples.add(List.of(wordOf(a), wordOf(b)));
        return yes(now.couples.size());
    }

    private int firstBroke(int script, List<List<String>> lines, Set<Integer> out, int turnOut) {
        for (int i = 0; i < lines.size(); i++) {
            Speak speak = new Speak(now.scripts.get(script), new State(), lines.get(i), out, turnOut);
            if (now.breaks(speak.say().words)) {
                return i;
            }
        }
        return -1;
    }

    public int broke(int script, int tray, int many) {
        int wrong = wrong(script, tray, many, 16);
        return wrong != 0 ? no(wrong) : yes(firstBroke(script, trayLines(tray, many), Set.of(), -1));
    }

    public int mend(int script, int tray, int many, int what) {
        int wrong = in(what, 0, 3) ? wrong(script, tray, many, 16) : 1;
        if (wrong != 0) {
            return no(wrong);
        }
        List<List<String>> lines = trayLines(tray, many);
        if (firstBroke(script, lines, Set.of(), -1) == -1) {
            return no(6);
        }
        List<Integer> rules = new ArrayList<>();
        List<Integer> turns = new ArrayList<>();
        for (int r = 0; r < now.scripts.get(script).rules.size(); r++) {
            if (firstBroke(script, lines, Set.of(r), -1) == -1) {
                rules.add(r);
            }
        }
        for (int t = 0; t < now.scripts.get(script).turns.size(); t++) {
            if (firstBroke(script, lines, Set.of(), t) == -1) {
                turns.add(t);
            }
        }
        List<Integer> of = what < 2 ? rules : turns;
        return what % 2 == 0 ? yes(of.size()) : of.isEmpty() ? no(6) : yes(of.get(0));
    }

    private int before(int k) {
        int times = 0;
        for (int i = 0; i < k; i++) {
            times += talkSaid.get(i).kind != 5 && talkSaid.get(i).words.equals(talkSaid.get(k).words) ? 1 : 0;
        }
        return talkSaid.get(k).kind == 5 ? 0 : times;
    }

    public int doubt(int n) {
        if (!in(n, 1, 9)) {
            return no(1);
        }
        for (int k = 0; k < talkSaid.size(); k++) {
            if (before(k) == n) {
                return yes(k);
            }
        }
        return yes(-1);
    }

    public boolean odds(int of) {
        if (!in(of, 0, 16)) {
            return not(1);
        }
        top = BigInteger.ONE;
        bottom = BigInteger.ONE;
        for (int k = 0; k < talkSaid.size(); k++) {
            if (before(k) > 0) {
                top = top.multiply(BigInteger.valueOf(of));
                bottom = bottom.multiply(BigInteger.valueOf(16));
            }
        }
        BigInteger common = top.gcd(bottom);
        top = top.divide(common);
        bottom = bottom.divide(common);
        return truly();
    }

    public int claim(int claim) {
        if (!in(claim, 0, 3)) {
            return no(1);
        }
        for (int k = 0; k < talkSaid.size(); k++) {
            int kind = talkSaid.get(k).kind;
            boolean against = switch (claim) {
                case 0 -> kind == 5;
                case 1 -> before(k) > 0;
                case 2 -> now.breaks(talkSaid.get(k).words);
                default -> kind != 0 && kind != 2 && kind != 3;
            };
            if (against) {
                return yes(k);
            }
        }
        return yes(-1);
    }

    private List<List<String>> saysAll(int script, List<List<String>> lines, Set<Integer> out) {
        State st = new State();
        List<List<String>> all = new ArrayList<>();
        for (List<String> line : lines) {
            all.add(new Speak(now.scripts.get(script), st, line, out, -1).say().words);
        }
        return all;
    }

    public int least(int script, int tray, int many) {
        if (!in(script, 0, 2) || !in(tray, 0, 3) || !in(many, 1, 15)) {
            return no(1);
        }
        int rules = now.scripts.get(script).rules.size();
        if (rules > 12) {
            return no(4);
        }
        int wrong = trayWrong(tray, many);
        if (wrong != 0) {
            return no(wrong);
        }
        List<List<String>> lines = trayLines(tray, many);
        List<List<String>> whole = saysAll(script, lines, Set.of());
        int best = -1;
        for (int set = 0; set < 1 << rules; set++) {
            if (best >= 0 && Integer.bitCount(set) >= Integer.bitCount(best)) {
                continue;
            }
            Set<Integer> out = new HashSet<>();
            for (int r = 0; r < rules; r++) {
                if ((set >> r & 1) == 0) {
                    out.add(r);
                }
            }
            if (saysAll(script, lines, out).equals(whole)) {
                best = set;
            }
        }
        leastSet = best;
        return yes(Integer.bitCount(best));
    }

    public int leastSet() {
        return leastSet == -1 ? no(6) : yes(leastSet);
    }

    private static void permute(List<Integer> ahead, List<Integer> left, List<List<Integer>> all) {
        if (left.isEmpty()) {
            all.add(new ArrayList<>(ahead));
        }
        for (Integer one : new ArrayList<>(left)) {
            List<Integer> rest = new ArrayList<>(left);
            rest.remove(one);
            ahead.add(one);
            permute(ahead, rest, all);
            ahead.remove(ahead.size() - 1);
        }
    }

    public int orders(int script) {
        if (!in(script, 0, 2)) {
            return no(1);
        }
        Script s = now.scripts.get(script);
        if (s.keys.size() > 6) {
            return no(4);
        }
        if (talkSaid.isEmpty()) {
            return no(6);
        }
        List<Integer> keys = new ArrayList<>();
        for (int k = 0; k < s.keys.size(); k++) {
            keys.add(k);
        }
        List<List<Integer>> all = new ArrayList<>();
        permute(new ArrayList<>(), keys, all);
        goodOrders = new ArrayList<>();
        orderedKeys = keys.size();
        for (List<Integer> order : all) {
            Script as = new Script();
            as.turns = s.turns;
            as.keys = s.keys;
            as.rules = s.rules;
            as.none = s.none;
            as.ranks = new ArrayList<>(Collections.nCopies(keys.size(), 0));
            for (int i = 0; i < order.size(); i++) {
                as.ranks.set(order.get(i), 50 - i);
            }
            State st = new State();
            boolean same = true;
            for (int i = 0; i < talkLines.size(); i++) {
                same &= speak(as, st, talkLines.get(i)).words.equals(talkSaid.get(i).words);
            }
            if (same) {
                goodOrders.add(order);
            }
        }
        return yes(goodOrders.size());
    }

    public int ahead(int a, int b) {
        if (orderedKeys == -1) {
            return no(6);
        }
        if (!in(a, 0, orderedKeys - 1) || !in(b, 0, orderedKeys - 1) || a == b) {
            return no(1);
        }
        return yes((int) goodOrders.stream().filter(o -> o.indexOf(a) < o.indexOf(b)).count());
    }

    public boolean leave(int k, boolean is) {
        if (!in(k, 0, talkSaid.size() - 1)) {
            return not(1);
        }
        if (is) {
            unread.add(k);
        } else {
            unread.remove(k);
        }
        return truly();
    }

    public int heard(long word) {
        if (wordOf(word) == null) {
            return no(1);
        }
        int times = 0;
        for (int k = 0; k < talkSaid.size(); k++) {
            if (!unread.contains(k)) {
                times += Collections.frequency(talkLines.get(k), wordOf(word));
                times += Collections.frequency(talkSaid.get(k).words, wordOf(word));
            }
        }
        return yes(times);
    }

    public int mark() {
        if (marks.size() == 3) {
            return no(4);
        }
        marks.push(now.copy());
        return yes(marks.size());
    }

    public int back() {
        if (marks.isEmpty()) {
            return no(6);
        }
        now = marks.pop();
        return yes(marks.size());
    }
}
