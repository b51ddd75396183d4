/** Promises 17 to 24: fits, gaps, turning, and what a script says. */
public final class SayingsTest {
    private static final Check CHECK = new Check();

    public static void main(String[] args) {
        fits();
        gaps();
        turning();
        ranks();
        likeRanks();
        turnsOfAnswers();
        goes();
        goesThatEnd();
        goesOfNone();
        remembering();
        cutting();
        wrongCalls();
        CHECK.end();
    }

    private static int fit(String pattern, String line) {
        AskBack x = new AskBack();
        Check.script(x, 0, "key a rank 1; when " + pattern + " say b;");
        Check.line(x, line);
        int fits = x.fit(0, 0, 0);
        CHECK.due("status of fit", x.status(), 0);
        return fits;
    }

    /** Promise 17. */
    private static void fits() {
        CHECK.due("a on a", fit("a", "a"), 1);
        CHECK.due("a on b", fit("a", "b"), 0);
        CHECK.due("a on a a", fit("a", "a a"), 0);
        CHECK.due("a on nothing", fit("a", ""), 0);
        CHECK.due("* on nothing", fit("*", ""), 1);
        CHECK.due("? on nothing", fit("?", ""), 0);
        CHECK.due("? on a", fit("?", "a"), 1);
        CHECK.due("? on a b", fit("?", "a b"), 0);
        CHECK.due("* on twelve", fit("*", "a b c d e f g h i j k l"), 1);
        CHECK.due("* ? on one", fit("* ?", "a"), 1);
        CHECK.due("* ? * on nothing", fit("* ? *", ""), 0);
        CHECK.due("* b * on a b c", fit("* b *", "a b c"), 1);
        CHECK.due("* b on b b c", fit("* b", "b b c"), 0);
        CHECK.due("* b on b c b", fit("* b", "b c b"), 1);
        CHECK.due("a * a on a", fit("a * a", "a"), 0);
        CHECK.due("a * a on a a", fit("a * a", "a a"), 1);
        CHECK.due("eight * on one", fit("********", "a"), 1);
        CHECK.due("* * * * * * * z on twelve", fit("* * * * * * * z", "a a a a a a a a a a a a"), 0);
        CHECK.due("eight ? on eight", fit("????????", "a a a a a a a a"), 1);
        CHECK.due("eight ? on seven", fit("????????", "a a a a a a a"), 0);
        CHECK.due("eight ? on nine", fit("????????", "a a a a a a a a a"), 0);
        AskBack x = new AskBack();
        Check.script(x, 1, "key a rank 1; keep * say b;");
        Check.line(x, "x");
        CHECK.due(x, "a keep's pattern", x.fit(1, 0, 0), 1, 0);
        CHECK.refused(x, "no such rule", x.fit(1, 1, 0), 1);
        CHECK.refused(x, "no such rule", x.fit(1, -1, 0), 1);
        CHECK.refused(x, "no such script", x.fit(3, 0, 0), 1);
        CHECK.refused(x, "no rule of that script", x.fit(0, 0, 0), 1);
        CHECK.refused(x, "no such line", x.fit(1, 0, 1), 1);
        CHECK.refused(x, "no such line", x.fit(1, 0, -1), 1);
    }

    private static void gap(AskBack x, int k, int place, int size) {
        CHECK.due(x, "gap(" + k + ", 0)", x.gap(k, 0), place, 0);
        CHECK.due(x, "gap(" + k + ", 1)", x.gap(k, 1), size, 0);
    }

    /** Promise 18: the first * takes fewest, then the next one. */
    private static void gaps() {
        AskBack x = new AskBack();
        Check.script(x, 0, "key a rank 1; when * ? * b * say b; when * * a say b; when a * b ? * c * say b;");
        Check.line(x, "a b c b d");
        CHECK.refused(x, "gap ahead of any fit", x.gap(1, 0), 6);
        CHECK.due("fit", x.fit(0, 0, 0), 1);
        gap(x, 1, 0, 0);
        gap(x, 2, 0, 1);
        gap(x, 3, 1, 0);
        gap(x, 4, 2, 3);
        CHECK.refused(x, "gap(5, 0)", x.gap(5, 0), 6);
        CHECK.refused(x, "gap(0, 0)", x.gap(0, 0), 1);
        CHECK.refused(x, "gap(-1, 0)", x.gap(-1, 0), 1);
        CHECK.refused(x, "gap(1, 2)", x.gap(1, 2), 1);
        CHECK.refused(x, "gap(1, -1)", x.gap(1, -1), 1);
        CHECK.due("a fit with 0", x.fit(0, 1, 0), 0);
        gap(x, 4, 2, 3);
        Check.line(x, "b c a a");
        CHECK.due("fit", x.fit(0, 1, 1), 1);
        gap(x, 1, 0, 0);
        gap(x, 2, 0, 3);
        CHECK.refused(x, "gap(3, 0)", x.gap(3, 0), 6);
        Check.line(x, "a b b x c c");
        CHECK.due("fit", x.fit(0, 2, 2), 1);
        gap(x, 1, 1, 0);
        gap(x, 2, 2, 1);
        gap(x, 3, 3, 1);
        gap(x, 4, 5, 1);
        Check.line(x, "a b x c");
        CHECK.due("fit", x.fit(0, 2, 3), 1);
        gap(x, 4, 4, 0);
        x.script(0, 0);
        CHECK.due("gaps stay when the script goes", x.gap(4, 0), 4);
        Check.script(x, 0, "key a rank 1; when a b x c say d;");
        CHECK.due("fit without gaps", x.fit(0, 0, 3), 1);
        CHECK.refused(x, "none of its gaps", x.gap(1, 0), 6);
    }

    /** Promise 19. */
    private static void turning() {
        AskBack x = new AskBack();
        Check.script(x, 2, "turn i you; turn you me; turn me me;");
        CHECK.due(x, "i", x.turned(2, Check.word("i")), Check.word("you"), 0);
        CHECK.due(x, "you", x.turned(2, Check.word("you")), Check.word("me"), 0);
        CHECK.due(x, "me", x.turned(2, Check.word("me")), Check.word("me"), 0);
        CHECK.due(x, "zzzzzzzz", x.turned(2, Check.word("zzzzzzzz")), Check.word("zzzzzzzz"), 0);
        CHECK.due(x, "another script", x.turned(0, Check.word("i")), Check.word("i"), 0);
        CHECK.refused(x, "no script", x.turned(3, 1), 1);
        CHECK.refused(x, "no script", x.turned(-1, 1), 1);
        long[] none = {0, -1, 27, 31, 32, 64, 33 << 5, 32 * 32, 1L << 40, 1L << 45 | 33, Long.MIN_VALUE,
            Long.MAX_VALUE, Check.word("zzzzzzzz") + 1, Check.word("aaaaaaaaa")};
        for (long word : none) {
            CHECK.refused(x, "turned of " + word, x.turned(2, word), 1);
        }
    }

    private static void told(AskBack x, int kind, int key, int rule, int answer, int goes) {
        int[] want = {kind, key, rule, answer, goes};
        for (int what = 0; what < 5; what++) {
            CHECK.due(x, "how(" + what + ")", x.how(what), want[what], want[what] == -1 ? 6 : 0);
        }
    }

    /** Promises 20 to 23: the greater rank first, rule by rule, then the next key. */
    private static void ranks() {
        AskBack x = new AskBack();
        Check.script(x, 0, "turn my your; turn i you; key a rank 1; when a * say low; when * a say ends; "
                + "key b rank 9; when b b say twice; when * b c say of 1 c; key d rank 0; when * say d 1 ; none no;");
        int ab = Check.line(x, "b x a");
        int my = Check.line(x, "a my i b c");
        int b = Check.line(x, "b");
        int d = Check.line(x, "my d");
        CHECK.says(x, 0, ab, "ends");
        told(x, 1, 0, 1, 0, 0);
        CHECK.says(x, 0, my, "of a your you c");
        told(x, 0, 1, 3, 0, 0);
        CHECK.says(x, 0, b, "no");
        told(x, 4, -1, -1, 0, 0);
        CHECK.says(x, 0, d, "d your d");
        told(x, 0, 2, 4, 0, 0);
        CHECK.due(x, "said(0)", x.said(0), Check.word("d"), 0);
        CHECK.due(x, "said(2)", x.said(2), Check.word("d"), 0);
        CHECK.refused(x, "said(3)", x.said(3), 6);
        CHECK.refused(x, "said(-1)", x.said(-1), 1);
        CHECK.says(x, 1, d, "");
        told(x, 5, -1, -1, -1, 0);
        CHECK.refused(x, "said(0) of nothing", x.said(0), 6);
        CHECK.refused(x, "say to no line", x.say(0, 9), 1);
        told(x, 5, -1, -1, -1, 0);
    }

    private static void likeRanks() {
        AskBack x = new AskBack();
        Check.script(x, 0, "key a rank 5; when * say ka; key b rank 5; when * say kb; key c rank 6; when z say kc;");
        int ba = Check.line(x, "x b a b");
        int ab = Check.line(x, "a b");
        int cba = Check.line(x, "c b a");
        CHECK.says(x, 0, ba, "kb");
        CHECK.says(x, 0, ab, "ka");
        CHECK.says(x, 0, cba, "kb");
        CHECK.due("how(1)", x.how(1), 1);
    }

    private static void turnsOfAnswers() {
        AskBack x = new AskBack();
        Check.script(x, 0, "key a rank 1; when a say p or q or o; when * a say r;");
        Check.script(x, 1, "none u or v or w or x;");
        int a = Check.line(x, "a");
        int ba = Check.line(x, "b a");
        String[] want = {"p", "q", "o", "p"};
        for (int i = 0; i < 4; i++) {
            CHECK.due("whose turn", x.rule(0, 0, 3), i % 3);
            CHECK.says(x, 0, a, want[i]);
            CHECK.due("which answer", x.how(3), i % 3);
            CHECK.says(x, 0, ba, "r");
        }
        String[] none = {"u", "v", "w", "x", "u"};
        for (int i = 0; i < 5; i++) {
            CHECK.says(x, 1, a, none[i]);
            told(x, 4, -1, -1, i % 4, 0);
        }
        CHECK.due(x, "begin(0)", x.begin(0), 0);
        CHECK.says(x, 0, a, "p");
        CHECK.says(x, 1, a, "v");
        CHECK.due(x, "begin(1)", x.begin(1), 0);
        CHECK.says(x, 1, a, "u");
        CHECK.due(x, "begin(3)", x.begin(3), 1);
        CHECK.due(x, "begin(-1)", x.begin(-1), 1);
        CHECK.says(x, 0, a, "q");
        Check.script(x, 0, "key a rank 1; when a say p or q;");
        CHECK.says(x, 0, a, "p");
    }

    private static void goes() {
        AskBack x = new AskBack();
        Check.script(x, 0, "key a rank 2; when * a say go b or stay; key b rank 1; keep * say kept 1; "
                + "when z say never; when * say well 1 or go c; key c rank 1; when ? say one; when * say go d or far; "
                + "key d rank 0; when x say no; none no one;");
        int a = Check.line(x, "a");
        int za = Check.line(x, "z a");
        CHECK.says(x, 0, a, "well a");
        told(x, 2, 1, 3, 0, 1);
        CHECK.due("a go's key keeps nothing", x.count(0, 3), 0);
        CHECK.says(x, 0, a, "stay");
        told(x, 1, 0, 0, 1, 0);
        CHECK.says(x, 0, a, "one");
        told(x, 2, 2, 4, 0, 2);
        CHECK.says(x, 0, a, "stay");
        CHECK.says(x, 0, za, "well z a");
        x.say(0, za);
        CHECK.says(x, 0, za, "no one");
        told(x, 4, -1, -1, 0, 3);
        CHECK.due("turns are taken all the same", x.rule(0, 5, 3), 1);
        x.say(0, za);
        x.say(0, za);
        x.say(0, za);
        CHECK.says(x, 0, za, "far");
        told(x, 2, 2, 5, 1, 2);
    }

    /** If a go leads to nothing, no more keys are looked at; the ninth go leads nowhere. */
    private static void goesThatEnd() {
        AskBack x = new AskBack();
        int ab = Check.line(x, "a b");
        Check.script(x, 0, "key a rank 2; when * say go c; key b rank 1; when * say b; key c rank 1; when c say c;");
        CHECK.says(x, 0, ab, "");
        told(x, 5, -1, -1, -1, 1);
        Check.script(x, 0, "key a rank 2; when * say go a or go a or go a or out; none end;");
        CHECK.says(x, 0, ab, "out");
        told(x, 2, 0, 0, 3, 3);
        Check.script(x, 0, "key a rank 2; when * say go a; none end;");
        CHECK.says(x, 0, ab, "end");
        told(x, 4, -1, -1, 0, 8);
        // nine rules one behind the other: the eighth go still leads to an answer
        StringBuilder text = new StringBuilder();
        for (char c = 'a'; c < 'i'; c++) {
            text.append("key ").append(c).append(" rank 1; when * say go ").append((char) (c + 1)).append(';');
        }
        Check.script(x, 0, text + "key i rank 1; when * say there;");
        CHECK.says(x, 0, ab, "there");
        told(x, 2, 8, 8, 0, 8);
        Check.script(x, 0, text + "key i rank 1; when * say go j or y; key j rank 1; when * say there;");
        CHECK.says(x, 0, ab, "");
        told(x, 5, -1, -1, -1, 8);
        CHECK.due("the ninth go's turn is taken", x.rule(0, 8, 3), 1);
        CHECK.says(x, 0, ab, "y");
    }

    private static void goesOfNone() {
        AskBack x = new AskBack();
        int q = Check.line(x, "q");
        int a = Check.line(x, "a");
        Check.script(x, 0, "none go a or go b or n; key a rank 1; when ? say hm 1; key b rank 1; when z say z;");
        CHECK.says(x, 0, q, "hm q");
        told(x, 2, 0, 0, 0, 1);
        CHECK.says(x, 0, q, "");
        told(x, 5, -1, -1, -1, 1);
        CHECK.says(x, 0, q, "n");
        told(x, 4, -1, -1, 2, 0);
        // the goes of keys and of none are counted together
        Check.script(x, 0, "key a rank 1; when * say go a; key b rank 1; when * say got; none go b;");
        CHECK.says(x, 0, a, "");
        told(x, 5, -1, -1, -1, 8);
        Check.script(x, 0, "key a rank 1; when * say go c; key b rank 1; when * say got; key c rank 1; none go b;");
        CHECK.says(x, 0, a, "got");
        told(x, 2, 1, 1, 0, 2);
    }

    /** Promise 24: of the first key alone each keep that fits, behind all others, at most six. */
    private static void remembering() {
        AskBack x = new AskBack();
        Check.script(x, 0, "turn my your; key my rank 5; keep * my ? say of 2; keep z say z; keep my * say more 1; "
                + "when * z say z; key b rank 1; keep * say never; when b * say b;");
        int myx = Check.line(x, "my x");
        int bmy = Check.line(x, "b my my");
        int q = Check.line(x, "q");
        CHECK.says(x, 0, myx, "of x");
        told(x, 3, -1, -1, -1, 0);
        CHECK.due("count(0, 3)", x.count(0, 3), 1);
        CHECK.due(x, "remembered(0, 0, -1)", x.remembered(0, 0, -1), 2, 0);
        CHECK.due(x, "remembered(0, 0, 0)", x.remembered(0, 0, 0), Check.word("more"), 0);
        CHECK.due(x, "remembered(0, 0, 1)", x.remembered(0, 0, 1), Check.word("x"), 0);
        CHECK.refused(x, "remembered(0, 0, 2)", x.remembered(0, 0, 2), 6);
        CHECK.refused(x, "remembered(0, 1, -1)", x.remembered(0, 1, -1), 6);
        CHECK.refused(x, "remembered(0, -1, -1)", x.remembered(0, -1, -1), 1);
        CHECK.refused(x, "remembered(0, 0, -2)", x.remembered(0, 0, -2), 1);
        CHECK.refused(x, "remembered(3, 0, -1)", x.remembered(3, 0, -1), 1);
        CHECK.refused(x, "remembered(1, 0, -1)", x.remembered(1, 0, -1), 6);
        for (int i = 0; i < 5; i++) {
            CHECK.says(x, 0, bmy, "b");
            told(x, 1, 1, 5, 0, 0);
        }
        CHECK.due("count(0, 3)", x.count(0, 3), 6);
        CHECK.due("the first is there yet", x.remembered(0, 0, 0), Check.word("more"));
        CHECK.says(x, 0, bmy, "b");
        CHECK.due("count(0, 3)", x.count(0, 3), 6);
        CHECK.due("the first went", x.remembered(0, 0, 0), Check.word("of"));
        for (int i = 0; i < 6; i++) {
            CHECK.says(x, 0, q, "of your");
        }
        CHECK.says(x, 0, q, "");
        CHECK.due("a keep's turn", x.rule(0, 0, 3), 0);
        x.say(0, bmy);
        x.begin(0);
        CHECK.due("fresh", x.count(0, 3), 0);
        x.say(0, bmy);
        CHECK.refused(x, "a script with a fault", Check.script(x, 0, "!"), 9);
        CHECK.due("stays as it is", x.count(0, 3), 1);
        x.script(0, 0);
        CHECK.due("a new one remembers nothing", x.count(0, 3), 0);
    }

    private static void cutting() {
        AskBack x = new AskBack();
        Check.script(x, 0, "turn a b; key a rank 1; keep * say 1 x 1; when * c say x 1 1; when d * say 1;"
                + " when * say 1;");
        int eleven = Check.line(x, "a d d d d d d d d d c");
        int alone = Check.line(x, "d a");
        CHECK.says(x, 0, eleven, "x b d d d d d d d d d b");
        CHECK.due("remembered, cut", x.remembered(0, 0, -1), 12);
        CHECK.due("its last word", x.remembered(0, 0, 11), Check.word("x"));
        CHECK.says(x, 0, alone, "b");
        // an answer whose gap took nothing is an answer of no words
        Check.script(x, 0, "key a rank 1; when * d a say 1; none no;");
        CHECK.says(x, 0, alone, "");
        told(x, 0, 0, 0, 0, 0);
    }

    private static void wrongCalls() {
        AskBack x = new AskBack();
        CHECK.refused(x, "said(0) ahead of any", x.said(0), 6);
        CHECK.refused(x, "said(-1) ahead of any", x.said(-1), 1);
        CHECK.refused(x, "how(0) ahead of any", x.how(0), 6);
        CHECK.refused(x, "how(5) ahead of any", x.how(5), 1);
        CHECK.refused(x, "how(-1)", x.how(-1), 1);
        CHECK.refused(x, "say to no line", x.say(0, 0), 1);
        Check.line(x, "a");
        CHECK.refused(x, "say of no script", x.say(3, 0), 1);
        CHECK.refused(x, "say of no script", x.say(-1, 0), 1);
        CHECK.refused(x, "say to no line", x.say(0, -1), 1);
        CHECK.refused(x, "how(0) behind wrong ones", x.how(0), 6);
        CHECK.due(x, "say", x.say(0, 0), 0, 0);
        CHECK.due(x, "how(0)", x.how(0), 5, 0);
    }
}
