import java.util.ArrayList;
import java.util.List;

/** Fits and sayings, behind ==== 3, and promises 17 to 24, at their edges. */
final class EdgesOfSayings extends Edges {
    EdgesOfSayings(Check check, Document document) {
        super(check, document);
    }

    @Override
    void hold() {
        allWords();
        items();
        fewest();
        allShortOnes();
        fits();
        gaps();
        ranks();
        keeps();
        atMostSix();
        keyByKey();
        turnsOfAnswers();
        goes();
        goesToNothing();
        atMostEightGoes();
        remembered();
        none();
        goesOfNone();
        nothing();
        cut();
        kinds();
        told();
        begins();
        saidAndHow();
        rememberedCalls();
    }

    private void fits(String pattern, String line, boolean does) {
        AskBack x = with("key k rank 1; when " + pattern + " say b; keep " + pattern + " say b;", line);
        check.due(x, pattern + " on '" + line + "'", x.fit(0, 0, 0), does ? 1 : 0, 0);
        check.due(x, "a keep's " + pattern + " on '" + line + "'", x.fit(0, 1, 0), does ? 1 : 0, 0);
    }

    /** Places and sizes of the gaps, one behind the other. */
    private void took(String pattern, String line, int... want) {
        AskBack x = with("key k rank 1; when " + pattern + " say 1;", line);
        check.due(x, pattern + " on '" + line + "'", x.fit(0, 0, 0), 1, 0);
        for (int k = 1; 2 * k <= want.length; k++) {
            check.due(x, "place of gap " + k + " of " + pattern, x.gap(k, 0), want[2 * k - 2], 0);
            check.due(x, "size of gap " + k + " of " + pattern, x.gap(k, 1), want[2 * k - 1], 0);
        }
        check.refused(x, "a gap more", x.gap(want.length / 2 + 1, 0), 6);
    }

    private void allWords() {
        holds("A PATTERN FITS a LINE, if its ITEMS take all its WORDS, one behind the other:");
        fits("a", "a", true);
        fits("a", "a a", false);
        fits("a", "b a", false);
        fits("a b", "a b", true);
        fits("a b", "b a", false);
        fits("a b", "a", false);
        fits("a b", "a x b", false);
        fits("a b c d e f g h", "a b c d e f g h", true);
        fits("a b c d e f g h", "a b c d e f g h i", false);
        fits("a b c d e f g h", "a b c d e f g", false);
        fits("* l", "a b c d e f g h i j k l", true);
        fits("* k", "a b c d e f g h i j k l", false);
        fits("a *", "a b c d e f g h i j k l", true);
        fits("b *", "a b c d e f g h i j k l", false);
        fits("* l *", "a b c d e f g h i j k l", true);
        fits("* m *", "a b c d e f g h i j k l", false);
    }

    private void items() {
        holds("a NAME that WORD, ? one WORD, * any number of them (none, too);");
        fits("a", "", false);
        fits("aaaaaaaa", "aaaaaaaa", true);
        fits("aaaaaaaa", "aaaaaaa", false);
        fits("?", "", false);
        fits("?", "a", true);
        fits("?", "a a", false);
        fits("????????", "a b c d e f g h", true);
        fits("????????", "a b c d e f g", false);
        fits("????????", "a b c d e f g h i", false);
        for (int words = 0; words <= 12; words++) {
            fits("*", "a ".repeat(words), true);
            took("*", "a ".repeat(words), 0, words);
            fits("********", "a ".repeat(words), true);
            fits("*?", "a ".repeat(words), words > 0);
            fits("?*?", "a ".repeat(words), words > 1);
        }
        took("*a*", "a", 0, 0, 1, 0);
        took("a*", "a", 1, 0);
        took("*a", "a", 0, 0);
    }

    private void fewest() {
        holds("of all ways that fit that by which the first * takes fewest, then the next one, and so on.");
        took("* a *", "a a a", 0, 0, 1, 2);
        took("* a", "a a a", 0, 2);
        took("a *", "a a a", 1, 2);
        took("* * *", "a b", 0, 0, 0, 0, 0, 2);
        took("* ? *", "a b", 0, 0, 0, 1, 1, 1);
        took("* ? * ?", "a b c", 0, 0, 0, 1, 1, 1, 2, 1);
        took("* a * b *", "x a b a b", 0, 1, 2, 0, 3, 2);
        took("* a b * b", "a x a b y b b", 0, 2, 4, 2);
        // the first * takes one more where the rest can't do with fewer
        took("* a ? b", "a a x b", 0, 1, 2, 1);
        took("* a * a b", "a c a b", 0, 0, 1, 1);
        took("a * a *", "a b a", 1, 1, 3, 0);
        took("a * a * a *", "a b a c c a a", 1, 1, 3, 2, 6, 1);
        took("* b * c * d *", "b d c b d c d", 0, 0, 1, 1, 3, 1, 5, 2);
        took("********", "a b c d e f g h i j k l", 0, 0, 0, 0, 0, 0, 0, 0, 0, 0, 0, 0, 0, 0, 0, 12);
        took("* l *", "a b c d e f g h i j k l", 0, 11, 12, 0);
    }

    /** Every pattern of up to four items on every line of up to four words, of the words a and b. */
    private void allShortOnes() {
        List<String> patterns = rows("a*?");
        List<String> lines = rows("ab");
        for (int p = 0; p < patterns.size(); p += 20) {
            List<String> some = patterns.subList(p, Math.min(p + 20, patterns.size()));
            String text = "key k rank 1;" + joined(some.size(), i -> "when " + spaced(some.get(i)) + "say k;");
            for (String line : lines) {
                AskBack x = with(text, spaced(line));
                for (int i = 0; i < some.size(); i++) {
                    List<Integer> want = firstWay(some.get(i), line, 0);
                    check.due(some.get(i) + " on " + line, x.fit(0, i, 0), want == null ? 0 : 1);
                    for (int k = 0; want != null && k < want.size(); k++) {
                        check.due(some.get(i) + " on " + line + ", gap " + k, x.gap(1 + k / 2, k % 2), want.get(k));
                    }
                }
            }
        }
        fits("???*b", "x x b", false);
        fits("*?*?*?*b", "x x x b", true);
        fits("*?*?*?*b", "x x b", false);
    }

    /** All rows of up to four signs; of none, too, where a line is meant. */
    private static List<String> rows(String signs) {
        List<String> all = new ArrayList<>(List.of(""));
        for (int i = 0; all.get(i).length() < 4; i++) {
            for (char sign : signs.toCharArray()) {
                all.add(all.get(i) + sign);
            }
        }
        return signs.contains("*") ? all.subList(1, all.size()) : all;
    }

    private static String spaced(String row) {
        return row.replaceAll("(.)", "$1 ");
    }

    /** Places and sizes of the gaps, each * tried from none on; null if no way fits. */
    private static List<Integer> firstWay(String items, String line, int at) {
        if (items.isEmpty()) {
            return at == line.length() ? List.of() : null;
        }
        char item = items.charAt(0);
        int most = item == '*' ? line.length() - at : 1;
        for (int took = item == '*' ? 0 : 1; took <= most && at + took <= line.length(); took++) {
            boolean fits = item == '*' || item == '?' || line.charAt(at) == item;
            List<Integer> rest = fits ? firstWay(items.substring(1), line, at + took) : null;
            if (rest != null) {
                List<Integer> all = new ArrayList<>(item == 'a' ? List.of() : List.of(at, took));
                all.addAll(rest);
                return all;
            }
        }
        return null;
    }

    private void fits() {
        holds("`int fit(int script, int rule, int line)`: Whether a RULE's PATTERN FITS a LINE: 1 or 0 (1).");
        AskBack x = with("key a rank 1; when a say b; keep b say b;", "a", "b");
        check.due(x, "fit(0, 0, 0)", x.fit(0, 0, 0), 1, 0);
        check.due(x, "fit(0, 0, 1)", x.fit(0, 0, 1), 0, 0);
        check.due(x, "fit(0, 1, 1)", x.fit(0, 1, 1), 1, 0);
        check.due(x, "a key that is not in the line", x.fit(0, 1, 0), 0, 0);
        for (int wrong : new int[] {-1, 2, FAR[0], FAR[3]}) {
            check.refused(x, "rule " + wrong, x.fit(0, wrong, 0), 1);
            check.refused(x, "line " + wrong, x.fit(0, 0, wrong), 1);
        }
        check.refused(x, "a rule of an empty script", x.fit(1, 0, 0), 1);
    }

    private void gaps() {
        holds("`int gap(int k, int what)`: Of GAP k (from 1) of fit() latest with 1, what 0: its first WORD's place, 1: how"
                + " many WORDS it took (1: k below 1, too; 6: no such GAP, no such fit()).");
        AskBack x = with("key a rank 1; when ? * a say b; when ???????? say b; when a say b;", "b c a", "a b c d e f g h", "a");
        check.refused(x, "no fit() yet", x.gap(1, 0), 6);
        check.refused(x, "k below 1 comes first", x.gap(0, 0), 1);
        x.fit(0, 2, 0);
        check.refused(x, "a fit() with 0 alone", x.gap(1, 0), 6);
        x.fit(0, 0, 0);
        for (int round = 0; round < 3; round++) {
            int[] want = {0, 1, 1, 1};
            for (int i = 0; i < 4; i++) {
                check.due(x, "gap " + i, x.gap(1 + i / 2, i % 2), want[i], 0);
            }
            check.refused(x, "gap(3, 0)", x.gap(3, 0), 6);
            // neither a fit() with 0 nor a refused one changes that
            check.due("a fit() with 0", x.fit(0, 1, 0), 0);
            x.fit(0, 3, 0);
        }
        for (int k : new int[] {0, -1, FAR[0]}) {
            check.refused(x, "gap(" + k + ", 0)", x.gap(k, 0), 1);
        }
        for (int k : new int[] {3, 8, 9, FAR[3]}) {
            check.refused(x, "gap(" + k + ", 1)", x.gap(k, 1), 6);
        }
        for (int what : new int[] {-1, 2, FAR[0], FAR[3]}) {
            check.refused(x, "gap(1, " + what + ")", x.gap(1, what), 1);
            check.refused(x, "what comes ahead of no such gap", x.gap(9, what), 1);
        }
        x.fit(0, 1, 1);
        check.due(x, "the eighth of eight", x.gap(8, 0), 7, 0);
        check.refused(x, "a ninth", x.gap(9, 0), 6);
        x.fit(0, 2, 2);
        check.refused(x, "a fit() without gaps", x.gap(1, 0), 6);
    }

    private void ranks() {
        holds("A SCRIPT SAYS to a LINE: KEYS whose NAME is a WORD of the LINE, the greater rank first, of like ranks the one"
                + " whose WORD stands first.");
        String text = joined(12, i -> "key " + letter(i) + " rank " + new int[] {0, 99, 5, 5, 5, 98, 0, 1, 9, 10, 0, 0}[i]
                + ";when * say k" + letter(i) + ";");
        AskBack x = with(text, "a b", "e d c", "c e d", "z a", "k l a", "l k a g", "f b", "i j", "a h", "z c z e c");
        String[] want = {"kb", "ke", "kc", "ka", "kk", "kl", "kb", "kj", "kh", "kc"};
        for (int line = 0; line < want.length; line++) {
            says(x, line, want[line], 1, want[line].charAt(1) - 'a');
        }
        AskBack y = with(text, "l k j i h g f e d c b a", "ab ba aa");
        says(y, 0, "kb", 1, 1, 1, 0, 0);
        says(y, 1, "", 5, -1, -1, -1, 0);
        // a key alone is no answer: its rules must fit
        AskBack z = with("key a rank 9; key b rank 5; when a b c say no; key c rank 1; when * say c;", "a b c d", "a b");
        says(z, 0, "c", 1, 2, 1, 0, 0);
        says(z, 1, "", 5, -1, -1, -1, 0);
    }

    private void keeps() {
        holds("Ahead of all, of the first of these KEYS each keep whose PATTERN FITS the LINE: its ANSWER is made and"
                + " REMEMBERED behind all others");
        AskBack x = with("turn x y; key a rank 5; when z say z; keep * a say first 1; keep b say no; keep * say second 1;"
                + " key b rank 4; keep * say never; when * say b; key c rank 9; when c say c;", "x a", "b a", "c x a", "b", "c");
        says(x, 0, "first y", 3, -1, -1, -1, 0);
        remembers(x, "second y a");
        says(x, 1, "b", 1, 1, 5, 0, 0);
        remembers(x, "second y a", "first b", "second b a");
        // the first key has no keep, and no other one's is looked at
        says(x, 2, "second y a", 3, -1, -1, -1, 0);
        remembers(x, "first b", "second b a");
        says(x, 3, "b", 1, 1, 5, 0, 0);
        remembers(x, "first b", "second b a", "never");
        says(x, 4, "c", 1, 2, 6, 0, 0);
        check.due("nothing more", x.count(0, 3), 3);
        // a key to which a go leads keeps nothing
        AskBack y = with("key a rank 1; when a say go b; key b rank 0; keep * say kept; when * say b;", "a", "b");
        says(y, 0, "b", 2, 1, 2, 0, 1);
        remembers(y);
        says(y, 1, "b", 1, 1, 2, 0, 0);
        remembers(y, "kept");
    }

    private void atMostSix() {
        holds("(of more than 6 the first goes; go is no ANSWER of a keep).");
        AskBack x = with("key a rank 1; keep a ? say 1; when * say so;", "a b", "a c", "a d", "a e", "a f", "a g", "a h", "a i");
        for (int line = 0; line < 6; line++) {
            check.due("remembered", x.count(0, 3), line);
            says(x, line, "so", 1, 0, 1, 0, 0);
        }
        remembers(x, "b", "c", "d", "e", "f", "g");
        x.say(0, 6);
        remembers(x, "c", "d", "e", "f", "g", "h");
        x.say(0, 7);
        remembers(x, "d", "e", "f", "g", "h", "i");
        check.refused(x, "a seventh", x.remembered(0, 6, -1), 6);
        // eight keeps by one line: the first two go at once
        AskBack y = with("key a rank 1;" + joined(8, i -> "keep a say k" + letter(i) + ";"), "a");
        says(y, 0, "kc", 3, -1, -1, -1, 0);
        remembers(y, "kd", "ke", "kf", "kg", "kh");
        check.refused(y, "a go of a keep", Check.script(y, 0, "key a rank 1; keep a say go a;"), 9);
        check.due("it can't stand there", y.fault(0), 2);
        check.due("at go", y.fault(1), 25);
    }

    private void keyByKey() {
        holds("Then KEY by KEY, RULE by RULE: the first when that FITS:");
        AskBack x = with("key a rank 2; when * b say p; when * say q; when * b say never; key b rank 3; when b say alone;"
                + " key c rank 1; when * say c;", "a b", "a", "b", "b a", "b c", "c");
        String[] want = {"p", "q", "alone", "q", "c", "c"};
        for (int line = 0; line < want.length; line++) {
            check.says(x, 0, line, want[line]);
        }
    }

    private void turnsOfAnswers() {
        holds("its ANSWER whose turn it is (the next one's turn then, behind the last the first again).");
        for (int answers = 1; answers <= 4; answers++) {
            String text = "key a rank 1; when a say k" + joined(answers - 1, i -> " or k" + letter(i)) + ";";
            AskBack x = with(text, "a", "q");
            for (int i = 0; i < 2 * answers + 1; i++) {
                int turn = i % answers;
                check.due("whose turn", x.rule(0, 0, 3), turn);
                says(x, 0, turn == 0 ? "k" : "k" + letter(turn - 1), 1, 0, 0, turn, 0);
                says(x, 1, "", 5, -1, -1, -1, 0);
            }
        }
        // each rule has a turn of its own, the first and the last one, too
        AskBack y = with("key a rank 1; when a say p or q or o;" + "when z say z;".repeat(22)
                + "when a a say r or s or t; none n or m or l;", "a", "a a", "q");
        String[] first = {"p", "q", "o", "p"};
        String[] last = {"r", "s", "t", "r"};
        String[] none = {"n", "m", "l", "n"};
        for (int i = 0; i < 4; i++) {
            says(y, 0, first[i], 1, 0, 0, i % 3, 0);
            says(y, 1, last[i], 1, 0, 23, i % 3, 0);
            says(y, 2, none[i], 4, -1, -1, i % 3, 0);
        }
    }

    private void goes() {
        holds("If that is go: on with the RULES of that KEY in their order (the first when that FITS),");
        AskBack x = with("key a rank 1; when a say go b; when * say go a; key b rank 9; keep a say no; when c say no;"
                + " when * say first; when * say second;", "a", "x a");
        says(x, 0, "first", 2, 1, 4, 0, 1);
        remembers(x);
        says(x, 1, "", 5, -1, -1, -1, 8);
    }

    private void goesToNothing() {
        holds("if none of them FITS, nothing does further: no more KEYS are looked at.");
        AskBack x = with("key a rank 9; when a b say go c; when * say never; key b rank 5; when * say b;"
                + " key c rank 1; when z say z;", "a b");
        says(x, 0, "", 5, -1, -1, -1, 1);
        AskBack y = with("key a rank 9; when * say go c; key b rank 5; when * say b; key c rank 1; keep * say k;", "a b");
        says(y, 0, "", 5, -1, -1, -1, 1);
        AskBack z = with("key a rank 9; when * say go c; key b rank 5; when * say b; key c rank 1; none n;", "a b");
        says(z, 0, "n", 4, -1, -1, 0, 1);
    }

    private static String chain(int goes) {
        return joined(goes, i -> "key " + letter(i) + " rank 1;when * say go " + letter(i + 1) + " or x;")
                + "key " + letter(goes) + " rank 1;when * say there;";
    }

    private void atMostEightGoes() {
        holds("at most 8 times in one saying (the 9th: as if nothing FITS further);");
        for (int goes = 1; goes <= 11; goes++) {
            AskBack x = with(chain(goes), "a");
            if (goes <= 8) {
                says(x, 0, "there", 2, goes, goes, 0, goes);
            } else {
                says(x, 0, "", 5, -1, -1, -1, 8);
            }
            for (int rule = 0; rule < goes; rule++) {
                check.due("the turn of rule " + rule, x.rule(0, rule, 3), rule <= 8 ? 1 : 0);
            }
        }
        // the count begins anew with each saying
        AskBack y = with("key a rank 1; when * say go a; none n;", "a");
        for (int i = 0; i < 3; i++) {
            says(y, 0, "n", 4, -1, -1, 0, 8);
        }
        // behind the 9th go no more keys are looked at, but what is remembered and none's answer
        AskBack z = with("key a rank 2; keep * say kept; when * say go a; key b rank 1; when * say b; none n;", "a b");
        says(z, 0, "kept", 3, -1, -1, -1, 8);
    }

    private void remembered() {
        holds("If no ANSWER comes so: the first LINE REMEMBERED is said, and is gone;");
        AskBack x = with("key a rank 1; keep a ? say 1; when a * say so; none n;", "a b", "a c", "q", "");
        says(x, 0, "so", 1, 0, 1, 0, 0);
        says(x, 1, "so", 1, 0, 1, 0, 0);
        says(x, 2, "b", 3, -1, -1, -1, 0);
        remembers(x, "c");
        says(x, 3, "c", 3, -1, -1, -1, 0);
        remembers(x);
        says(x, 2, "n", 4, -1, -1, 0, 0);
        // what is remembered by this very line, and what has no words
        AskBack y = with("key a rank 1; keep * a say 1; none n;", "a", "q a", "q");
        says(y, 0, "", 3, -1, -1, -1, 0);
        says(y, 1, "q", 3, -1, -1, -1, 0);
        says(y, 2, "n", 4, -1, -1, 0, 0);
    }

    private void none() {
        holds("if there is none, none's ANSWER whose turn it is");
        AskBack x = with("key a rank 1; keep a say k; when b a say b; none n or m;", "q", "a", "");
        says(x, 0, "n", 4, -1, -1, 0, 0);
        says(x, 1, "k", 3, -1, -1, -1, 0);
        says(x, 2, "m", 4, -1, -1, 1, 0);
        says(x, 0, "n", 4, -1, -1, 0, 0);
    }

    private void goesOfNone() {
        holds("(a go of none: as a go above, and if no ANSWER comes so, NOTHING);");
        AskBack x = with("none go a or go b or n; key a rank 1; when q say hm; key b rank 1; when z say z;", "q", "y");
        says(x, 0, "hm", 2, 0, 0, 0, 1);
        says(x, 0, "", 5, -1, -1, -1, 1);
        says(x, 0, "n", 4, -1, -1, 2, 0);
        says(x, 1, "", 5, -1, -1, -1, 1);
        // as a go above: on from go to go, at most eight in one saying, those of none among them
        AskBack y = with("none go a;" + chain(7), "q");
        says(y, 0, "there", 2, 7, 7, 0, 8);
        AskBack z = with("none go a;" + chain(8), "q");
        says(z, 0, "", 5, -1, -1, -1, 8);
        check.due("the turn of the 9th go", z.rule(0, 7, 3), 1);
        AskBack w = with("none go b; key c rank 1; when c say go d;" + chain(1).replace("rank 1", "rank 0")
                + "key d rank 0; when z say z;", "c");
        says(w, 0, "there", 2, 2, 2, 0, 2);
        AskBack v = with("none go b; key a rank 1; when * say go a; key b rank 0; when * say b;", "a");
        says(v, 0, "", 5, -1, -1, -1, 8);
        // none's turn goes on, too, where its go leads to nothing
        AskBack u = with("none go a or n; key a rank 1;", "q");
        says(u, 0, "", 5, -1, -1, -1, 1);
        says(u, 0, "n", 4, -1, -1, 1, 0);
    }

    private void nothing() {
        holds("without a none NOTHING: a LINE of no WORDS.");
        AskBack x = with("key a rank 1; when a say b;", "q", "a");
        check.due(x, "say", x.say(0, 0), 0, 0);
        told(x, 5, -1, -1, -1, 0);
        check.refused(x, "its first word", x.said(0), 6);
        says(x, 1, "b", 1, 0, 0, 0, 0);
        says(x, 0, "", 5, -1, -1, -1, 0);
    }

    private void cut() {
        holds("An ANSWER's LINE: its PIECES one behind the other, cut behind 12 WORDS.");
        AskBack x = with("turn l m; key a rank 1; keep a * say 1 k; when a * say x 1 y or x 1 or 1 1 z;",
                "a b c d e f g h i j k l", "a b c d e f g h i j k");
        says(x, 1, "x b c d e f g h i j k y", 0, 0, 1, 0, 0);
        x.begin(0);
        says(x, 0, "x b c d e f g h i j k m", 0, 0, 1, 0, 0);
        says(x, 0, "x b c d e f g h i j k m", 0, 0, 1, 1, 0);
        says(x, 0, "b c d e f g h i j k m b", 0, 0, 1, 2, 0);
        remembers(x, "b c d e f g h i j k m k", "b c d e f g h i j k m k", "b c d e f g h i j k m k");
        AskBack y = with("key a rank 1; keep * say 1 1 k; when * say z 1 1 1 1 1 1 1 1 1;", "a b c d e f g h i j k l");
        says(y, 0, "z a b c d e f g h i j k", 0, 0, 1, 0, 0);
        remembers(y, "a b c d e f g h i j k l");
        // with a number in it, though what that gave is cut away
        AskBack z = with("key a rank 1; when * b ? say 1 x x 2;", "a a a a a a a a a a b c");
        says(z, 0, "a a a a a a a a a a x x", 0, 0, 0, 0, 0);
    }

    private void kinds() {
        holds("Its KIND: 0 with a NUMBER in it, 1 without, by a when that no go led to; 2 by a when that some go led to; 3"
                + " REMEMBERED; 4 by none (a go of which leads to KIND 2); 5 NOTHING.");
        AskBack x = with("key a rank 1; when a * say p 1 or q or go b or 1; key b rank 1; when a say led or x;"
                + " when * say 1; key c rank 1; keep c say kept; none n or go b;", "a z", "a", "c", "q");
        says(x, 0, "p z", 0, 0, 0, 0, 0);
        says(x, 0, "q", 1, 0, 0, 1, 0);
        says(x, 0, "a z", 2, 1, 2, 0, 1);
        says(x, 1, "", 0, 0, 0, 3, 0);
        says(x, 1, "p", 0, 0, 0, 0, 0);
        says(x, 1, "q", 1, 0, 0, 1, 0);
        says(x, 1, "led", 2, 1, 1, 0, 1);
        says(x, 2, "kept", 3, -1, -1, -1, 0);
        says(x, 3, "n", 4, -1, -1, 0, 0);
        says(x, 3, "q", 2, 1, 2, 0, 1);
        given(x, 0, "");
        says(x, 3, "", 5, -1, -1, -1, 0);
    }

    private void told() {
        holds("TOLD of a saying are its KIND, the KEY (of the RULE), the RULE, which of its ANSWERS (from 0), how many goes were"
                + " gone (always, those that led to nothing, too; of KINDS 3 and 5 there is no KEY, RULE, ANSWER, of 4 no KEY"
                + " and RULE).");
        AskBack x = with("key a rank 1; keep * say kept; when a say go b; key b rank 1; when a say go c or x or go b;"
                + " key c rank 1; when z say z; none n;", "a", "q");
        says(x, 0, "kept", 3, -1, -1, -1, 2);
        says(x, 0, "x", 2, 1, 2, 1, 1);
        says(x, 0, "kept", 3, -1, -1, -1, 3);
        x.begin(0);
        x.say(0, 0);
        says(x, 1, "n", 4, -1, -1, 0, 0);
        AskBack y = with("key a rank 1; when a say go b; key b rank 1; when a say go c; key c rank 1; none n or go c;", "a");
        says(y, 0, "n", 4, -1, -1, 0, 2);
        says(y, 0, "", 5, -1, -1, -1, 3);
    }

    private void begins() {
        holds("`boolean begin(int script)`: A SCRIPT is FRESH (1).");
        AskBack x = with("key a rank 1; keep a say k; when a say p or q; none n or m;", "a", "q");
        given(x, 1, "none u or v;");
        x.say(0, 0);
        x.say(0, 1);
        x.say(0, 1);
        x.say(0, 0);
        x.say(0, 0);
        x.say(1, 0);
        check.due(x, "begin(0)", x.begin(0), 0);
        remembers(x);
        check.due("whose turn", x.rule(0, 1, 3), 0);
        says(x, 1, "n", 4, -1, -1, 0, 0);
        says(x, 0, "p", 1, 0, 1, 0, 0);
        check.says(x, 1, 0, "v");
        for (int script : new int[] {-1, 3, FAR[0], FAR[3]}) {
            check.due(x, "begin(" + script + ")", x.begin(script), 1);
        }
        says(x, 0, "q", 1, 0, 1, 1, 0);
    }

    private void saidAndHow() {
        holds("`int say(int script, int line)`: A SCRIPT SAYS to a LINE: how many WORDS (1).");
        AskBack x = with("none a b c d e f g h i j; key k rank 1; when * say 1;", "q", "k b c d e f g h i j k l", "k");
        check.refused(x, "said(0) ahead of any", x.said(0), 6);
        check.refused(x, "how(0) ahead of any", x.how(0), 6);
        for (int line : new int[] {-1, 3, FAR[0], FAR[3]}) {
            check.refused(x, "say(0, " + line + ")", x.say(0, line), 1);
        }
        check.refused(x, "said(0) yet", x.said(0), 6);
        check.due(x, "ten", x.say(0, 0), 10, 0);
        check.due(x, "one", x.say(0, 2), 1, 0);
        check.due(x, "none", x.say(1, 0), 0, 0);
        check.due(x, "twelve", x.say(0, 1), 12, 0);
        holds("`long said(int k)`: WORD k of what say() said latest with STATUS 0 (1: below 0; 6).");
        x.say(3, 0);
        check.due(x, "said(0)", x.said(0), Check.word("k"), 0);
        check.due(x, "said(11)", x.said(11), Check.word("l"), 0);
        for (int k : new int[] {12, 13, FAR[3]}) {
            check.refused(x, "said(" + k + ")", x.said(k), 6);
        }
        for (int k : new int[] {-1, FAR[0]}) {
            check.refused(x, "said(" + k + ")", x.said(k), 1);
        }
        x.say(0, 2);
        check.refused(x, "said(1) of one", x.said(1), 6);
        holds("`int how(int what)`: TOLD of say() latest with STATUS 0, what 0: KIND, 1: KEY, 2: RULE, 3: which ANSWER, 4: goes"
                + " (1; 6: no say(), or there is none such: NONE is it then).");
        for (int what : new int[] {-1, 5, FAR[0], FAR[3]}) {
            check.refused(x, "how(" + what + ")", x.how(what), 1);
            AskBack y = new AskBack();
            check.refused(y, "how(" + what + ") ahead of any", y.how(what), 1);
        }
        told(x, 0, 0, 0, 0, 0);
        x.say(0, 9);
        told(x, 0, 0, 0, 0, 0);
        x.say(0, 0);
        told(x, 4, -1, -1, 0, 0);
        x.say(1, 0);
        told(x, 5, -1, -1, -1, 0);
    }

    private void rememberedCalls() {
        holds("`long remembered(int script, int k, int i)`: WORD i of the k-th LINE REMEMBERED of a SCRIPT; i NONE: how many it"
                + " has (1: k below 0, too; 6: none such).");
        AskBack x = with("key a rank 1; keep * a * say 1; keep a * say 1; when * say so;", "a b c d e f g h i j k l");
        check.refused(x, "none at first", x.remembered(0, 0, -1), 6);
        x.say(0, 0);
        check.due(x, "a line of no words", x.remembered(0, 0, -1), 0, 0);
        check.refused(x, "its first word", x.remembered(0, 0, 0), 6);
        check.due(x, "a line of eleven", x.remembered(0, 1, -1), 11, 0);
        check.due(x, "its first", x.remembered(0, 1, 0), Check.word("b"), 0);
        check.due(x, "its last", x.remembered(0, 1, 10), Check.word("l"), 0);
        for (int i : new int[] {11, 12, FAR[3]}) {
            check.refused(x, "word " + i, x.remembered(0, 1, i), 6);
        }
        for (int k : new int[] {2, 6, FAR[3]}) {
            check.refused(x, "line " + k, x.remembered(0, k, -1), 6);
            check.refused(x, "a number that can't be comes first", x.remembered(0, k, -2), 1);
        }
        for (int low : new int[] {-2, FAR[0]}) {
            check.refused(x, "word " + low, x.remembered(0, 1, low), 1);
            check.refused(x, "line " + low, x.remembered(0, low, -1), 1);
        }
        check.refused(x, "line -1", x.remembered(0, -1, -1), 1);
        check.refused(x, "line -1 of a script without any", x.remembered(1, -1, 0), 1);
        check.refused(x, "of a script without any", x.remembered(1, 0, -1), 6);
        for (int i = 0; i < 3; i++) {
            x.say(0, 0);
        }
        check.due(x, "the sixth of six", x.remembered(0, 5, -1), 11, 0);
        check.refused(x, "a seventh", x.remembered(0, 6, -1), 6);
    }
}
