/** Talks and what may be said of the latest one, behind ==== 4, and promises 25, 26, 34 to 36, 41 and 42, at their edges. */
final class EdgesOfTalks extends Edges {
    EdgesOfTalks(Check check, Document document) {
        super(check, document);
    }

    @Override
    void hold() {
        fresh();
        latest();
        talks();
        spokenWords();
        doubts();
        doubtsOfNothing();
        odds();
        oddsWithoutDivisor();
        claims();
        falseByTheFirst();
        kept();
        leaves();
        heardWords();
    }

    /** Over all lines from 0 on, as many as are asked for. */
    private static void talk(AskBack x, int... lines) {
        Check.fill(x, 3, lines);
        x.talk(0, 3, lines.length);
    }

    private void fresh() {
        holds("A TALK of a SCRIPT: it is made FRESH, then it says to so many LINES, one behind the other (their numbers in a"
                + " TRAY, 1 to 15).");
        AskBack x = with("key a rank 1; keep a ? say 1; when a ? say p or q or o; none n or m;", "a b", "a c", "q");
        for (int i = 0; i < 3; i++) {
            x.say(0, 0);
            talk(x, 2, 0, 1, 0, 2, 2, 2, 2);
            spoke(x, "n", "p", "q", "o", "b", "c", "b", "m");
        }
        talk(x, 0);
        spoke(x, "p");
        Check.fill(x, 0, 0, 0, 0, 0, 0, 0, 0, 0, 0, 0, 0, 0, 0, 0, 2);
        check.due(x, "fifteen", x.talk(0, 0, 15), 0, 0);
        spoke(x, "p", "q", "o", "p", "q", "o", "p", "q", "o", "p", "q", "o", "p", "q", "b");
        check.refused(x, "sixteen", x.talk(0, 0, 16), 1);
        check.refused(x, "none", x.talk(0, 0, 0), 1);
    }

    private void latest() {
        holds("The latest TALK is kept: LINES and what was said; nothing of it is KEPT from reading at first.");
        AskBack x = with("none n;", "a b");
        x.mark();
        heard(x, "c");
        talk(x, 1, 0);
        x.back();
        heard(x, "d");
        given(x, 0, "none m;");
        x.write(3, 0, 0);
        check.due("the line that was said", x.heard(Check.word("c")), 1);
        check.due("the one that came in its place", x.heard(Check.word("d")), 0);
        spoke(x, "n", "n");
        x.leave(0, true);
        x.talk(0, 3, 0);
        check.due("a refused talk leaves it", x.heard(Check.word("n")), 1);
        talk(x, 0, 0, 0);
        check.due("another talk, all to be read", x.heard(Check.word("m")), 3);
        check.due("nothing of the talk ahead", x.heard(Check.word("n")), 0);
    }

    private void talks() {
        holds("`int talk(int script, int tray, int many)`: A TALK, LINES in a TRAY: how many sayings are of KIND 0");
        AskBack x = with("key a rank 1; keep * say k; when * a * say 1 2 or z or go b or 2; key b rank 0; when * say 1;", "a c",
                "q");
        Check.fill(x, 0, 0, 0, 0, 0, 1, 1, 1, 1, 1, 0);
        int[] want = {1, 1, 1, 2, 2, 2, 2, 2, 2, 3};
        for (int many = 1; many <= 10; many++) {
            check.due(x, "talk of " + many, x.talk(0, 0, many), want[many - 1], 0);
        }
        holds("The SCRIPT's own state stays as it is.");
        check.due("whose turn", x.rule(0, 1, 3), 0);
        remembers(x);
        says(x, 0, "c", 0, 0, 1, 0, 0);
        x.talk(0, 0, 10);
        check.due("whose turn", x.rule(0, 1, 3), 1);
        remembers(x, "k");
    }

    private void spokenWords() {
        holds("`long spoken(int k, int what)`: Of saying k of the latest TALK, what NONE: how many WORDS, 0 to 11: WORD (1: k"
                + " below 0, too; 6: none such).");
        AskBack x = with("key a rank 1; when * say 1;", "a b c d e f g h i j k l", "a", "q");
        check.refused(x, "no talk", x.spoken(0, -1), 6);
        check.refused(x, "k below 0 comes first", x.spoken(-1, -1), 1);
        check.refused(x, "what 12 comes first", x.spoken(0, 12), 1);
        talk(x, 2, 0, 1);
        check.due(x, "nothing", x.spoken(0, -1), 0, 0);
        check.refused(x, "its first word", x.spoken(0, 0), 6);
        check.due(x, "twelve", x.spoken(1, -1), 12, 0);
        for (int i = 0; i < 12; i++) {
            check.due(x, "word " + i, x.spoken(1, i), i + 1, 0);
        }
        check.due(x, "one", x.spoken(2, -1), 1, 0);
        check.refused(x, "a second", x.spoken(2, 1), 6);
        check.refused(x, "a twelfth", x.spoken(2, 11), 6);
        for (int what : new int[] {12, -2, FAR[0], FAR[3]}) {
            check.refused(x, "what " + what, x.spoken(1, what), 1);
            check.refused(x, "what " + what + " of no saying", x.spoken(3, what), 1);
        }
        for (int k : new int[] {3, 15, FAR[3]}) {
            check.refused(x, "saying " + k, x.spoken(k, -1), 6);
        }
        for (int k : new int[] {-1, FAR[0]}) {
            check.refused(x, "saying " + k, x.spoken(k, 0), 1);
        }
        Check.fill(x, 0, 1, 1, 1, 1, 1, 1, 1, 1, 1, 1, 1, 1, 1, 1, 0);
        x.talk(0, 0, 15);
        check.due(x, "the last word of the last saying", x.spoken(14, 11), 12, 0);
        check.refused(x, "a sixteenth saying", x.spoken(15, -1), 6);
    }

    private void doubts() {
        holds("Of the latest TALK: DOUBT of n (1 to 9): the first saying that was said n times ahead of it already, word by"
                + " word");
        AskBack x = with("key a rank 1; when * a * say so 1 2; none so;", "q", "a", "b a", "a b", "c a");
        Check.fill(x, 0, 4, 0, 1, 0, 0, 0, 0, 0, 0, 0, 0, 0, 0, 0, 4);
        x.talk(0, 0, 15);
        for (int n = 1; n <= 9; n++) {
            check.due(x, "doubt(" + n + ")", x.doubt(n), n + 1, 0);
        }
        x.talk(0, 0, 10);
        check.due(x, "doubt(8)", x.doubt(8), 9, 0);
        check.due(x, "doubt(9)", x.doubt(9), -1, 0);
        talk(x, 2, 3);
        check.due(x, "the same by other lines", x.doubt(1), 1, 0);
        talk(x, 2, 4, 0);
        check.due(x, "unlike in the last word, in size", x.doubt(1), -1, 0);
        talk(x, 2, 2);
        check.due(x, "the second", x.doubt(1), 1, 0);
        talk(x, 2);
        check.due(x, "one alone", x.doubt(1), -1, 0);
        holds("`int doubt(int n)`: DOUBT: which saying; STATUS 0 also with NONE: none (1).");
        for (int n : new int[] {0, -1, 10, FAR[0], FAR[3]}) {
            check.refused(x, "doubt(" + n + ")", x.doubt(n), 1);
        }
        check.due(x, "none", x.doubt(9), -1, 0);
        AskBack y = new AskBack();
        check.due(y, "without a talk", y.doubt(1), -1, 0);
        check.refused(y, "without a talk", y.doubt(0), 1);
    }

    private void doubtsOfNothing() {
        holds("word by word (NOTHING apart).");
        AskBack x = with("key a rank 1; when a say b;", "q", "a");
        talk(x, 0, 0, 0, 1, 0, 0);
        check.due(x, "nothing is never doubted", x.doubt(1), -1, 0);
        fraction(x, 3, 1, 1);
        check.due(x, "nor said twice", x.claim(1), -1, 0);
        talk(x, 0, 1, 0, 1, 0);
        check.due(x, "among nothings", x.doubt(1), 3, 0);
        fraction(x, 3, 3, 16);
        // an answer that has no words is an answer, and not nothing
        AskBack y = with("key a rank 1; when * a say 1;", "q", "a");
        talk(y, 0, 1, 0, 1, 1);
        check.due(y, "an answer of no words", y.doubt(1), 3, 0);
        check.due(y, "twice", y.doubt(2), 4, 0);
        fraction(y, 8, 1, 4);
        check.due(y, "claim(0)", y.claim(0), 0, 0);
    }

    private void odds() {
        holds("ODDS that nobody doubts, if each saying that was said ahead of it already (NOTHING apart) is believed by so many"
                + " of 16: a FRACTION.");
        AskBack x = with("key a rank 1; when * a say 1 so; none n;", "q", "b a", "c a");
        talk(x, 0, 1, 2);
        fraction(x, 0, 1, 1);
        fraction(x, 5, 1, 1);
        talk(x, 0, 1, 2, 1);
        fraction(x, 5, 5, 16);
        talk(x, 0, 1, 2, 1, 0, 1);
        fraction(x, 5, 125, 4096);
        fraction(x, 0, 0, 1);
        fraction(x, 16, 1, 1);
        talk(x, 0, 0, 0, 0, 0, 0, 0, 0, 0, 0, 0, 0, 0, 0, 0);
        fraction(x, 15, 29192926025390625L, 1L << 56);
        fraction(x, 1, 1, 1L << 56);
        fraction(x, 0, 0, 1);
        holds("`boolean odds(int of)`: The FRACTION is ODDS, so many of 16 (0 to 16) (1).");
        fraction(x, 15, 29192926025390625L, 1L << 56);
        for (int of : new int[] {-1, 17, FAR[0], FAR[3]}) {
            check.due(x, "odds(" + of + ")", x.odds(of), 1);
            check.due("the fraction stays", x.top(), 29192926025390625L);
            check.due("the fraction stays", x.bottom(), 1L << 56);
        }
        AskBack y = new AskBack();
        fraction(y, 0, 1, 1);
        check.due(y, "without a talk", y.odds(17), 1);
    }

    private void oddsWithoutDivisor() {
        holds("FRACTIONS are told by top() and bottom() without a common divisor, the bottom above 0; 0 is 0 by 1.");
        AskBack x = with("none n;", "q");
        long[][] once = {{0, 1}, {1, 16}, {1, 8}, {3, 16}, {1, 4}, {5, 16}, {3, 8}, {7, 16}, {1, 2}, {9, 16}, {5, 8},
            {11, 16}, {3, 4}, {13, 16}, {7, 8}, {15, 16}, {1, 1}};
        talk(x, 0, 0);
        for (int of = 0; of <= 16; of++) {
            fraction(x, of, once[of][0], once[of][1]);
        }
        talk(x, 0, 0, 0, 0);
        for (int of = 0; of <= 16; of++) {
            fraction(x, of, once[of][0] * once[of][0] * once[of][0], once[of][1] * once[of][1] * once[of][1]);
        }
        talk(x, 0);
        for (int of = 0; of <= 16; of++) {
            fraction(x, of, 1, 1);
        }
    }

    /** The first sayings against claims 0 to 3. */
    private void against(AskBack x, int... want) {
        for (int claim = 0; claim < 4; claim++) {
            check.due(x, "claim(" + claim + ")", x.claim(claim), want[claim], 0);
        }
    }

    private void claims() {
        holds("CLAIMS, 0: it always answers (no NOTHING).");
        AskBack x = with("key a rank 1; keep * say k; when a say b c; when * a say 1 c d;", "q", "a", "b a", "c a");
        talk(x, 2, 1, 0, 0, 0, 0);
        against(x, 4, 3, -1, 1);
        talk(x, 2, 3);
        against(x, -1, -1, -1, -1);
        holds("1: it never says a thing twice (NOTHING apart).");
        talk(x, 2, 3, 2, 3);
        against(x, -1, 2, -1, -1);
        holds("2: it never breaks speech (no BROKEN couple).");
        talk(x, 2, 3, 1);
        x.broken(Check.word("d"), Check.word("c"));
        against(x, -1, -1, -1, 2);
        x.broken(Check.word("b"), Check.word("c"));
        against(x, -1, -1, 0, 2);
        talk(x, 3, 1);
        against(x, -1, -1, 1, 1);
        holds("3: it takes up what one says (each saying is of KIND 0, 2 or 3).");
        AskBack y = with("key a rank 1; keep * b say 1; when a say b or go e; when * a say 1; key e rank 0; when * say led;"
                + " key z rank 3; when z say go y; key y rank 0; none n;", "q", "a", "x a", "a b", "z");
        talk(y, 2, 3, 2);
        against(y, -1, 2, -1, -1);
        talk(y, 1);
        against(y, -1, -1, -1, 0);
        talk(y, 1, 1);
        against(y, -1, -1, -1, 0);
        talk(y, 3, 0);
        against(y, -1, -1, -1, 1);
        talk(y, 0);
        against(y, -1, -1, -1, 0);
        given(y, 0, "none go e; key a rank 1; when a say z; key e rank 0; when * say 1;");
        talk(y, 0, 2);
        against(y, -1, -1, -1, -1);
        given(y, 0, "");
        talk(y, 0);
        against(y, 0, -1, -1, 0);
    }

    private void falseByTheFirst() {
        holds("Each is false by the first saying against it.");
        AskBack x = with("key a rank 1; when a say b c; when * a say 1 c;", "q", "a", "x a");
        x.broken(Check.word("b"), Check.word("c"));
        Check.fill(x, 0, 2, 2, 2, 2, 2, 2, 2, 2, 2, 2, 2, 2, 2, 1, 0);
        x.talk(0, 0, 15);
        against(x, 14, 1, 13, 13);
        x.talk(0, 0, 13);
        against(x, -1, 1, -1, -1);
        talk(x, 2, 0, 1, 0, 1);
        against(x, 1, 4, 2, 1);
        Check.fill(x, 0, 2, 2, 2, 2, 2, 2, 2, 2, 2, 2, 2, 2, 2, 2, 2);
        x.talk(0, 0, 15);
        against(x, -1, 1, -1, -1);
        holds("`int claim(int claim)`: A CLAIM (0 to 3): the first saying against it; STATUS 0 also with NONE: it holds (1).");
        for (int claim : new int[] {-1, 4, FAR[0], FAR[3]}) {
            check.refused(x, "claim(" + claim + ")", x.claim(claim), 1);
        }
        against(new AskBack(), -1, -1, -1, -1);
    }

    private void kept() {
        holds("KEPT from reading are sayings of the latest TALK (the LINE and what was said to it) that are told so: a WORD's"
                + " COUNT is in all others.");
        AskBack x = with("key a rank 1; when * a say b b 1;", "b a", "q b b", "a");
        talk(x, 0, 1, 2, 0);
        long b = Check.word("b");
        check.due("all", x.heard(b), 4 + 2 + 2 + 4);
        int[] of = {4, 2, 2, 4};
        for (int k = 0; k < 4; k++) {
            x.leave(k, true);
            check.due("without saying " + k, x.heard(b), 12 - of[k]);
            x.leave(k, false);
            check.due("with saying " + k, x.heard(b), 12);
        }
        for (int k = 0; k < 4; k++) {
            x.leave(k, true);
        }
        check.due("none", x.heard(b), 0);
        // reading alone is kept from: what was said is told as before
        spoke(x, "b b b", "", "b b", "b b b");
        check.due("doubt(1)", x.doubt(1), 3);
        check.due("claim(0)", x.claim(0), 1);
    }

    private void leaves() {
        holds("`boolean leave(int k, boolean is)`: Saying k of the latest TALK is KEPT from reading, or no more (1: none such).");
        AskBack x = with("none n;", "a");
        for (int k : new int[] {-1, 0, 1, FAR[0], FAR[3]}) {
            check.due(x, "leave(" + k + ") without a talk", x.leave(k, true), 1);
            check.due(x, "leave(" + k + ") without a talk", x.leave(k, false), 1);
        }
        x.tray(0, 0, 15);
        x.talk(0, 0, 15);
        for (int k : new int[] {-1, 15, FAR[0], FAR[3]}) {
            check.due(x, "leave(" + k + ")", x.leave(k, true), 1);
        }
        check.due("all are read", x.heard(1), 15);
        check.due(x, "leave(14, true)", x.leave(14, true), 0);
        check.due(x, "leave(0, true)", x.leave(0, true), 0);
        check.due(x, "leave(0, true) again", x.leave(0, true), 0);
        check.due(x, "leave(1, false)", x.leave(1, false), 0);
        check.due("thirteen are read", x.heard(1), 13);
        check.due(x, "leave(0, false)", x.leave(0, false), 0);
        check.due("fourteen are read", x.heard(1), 14);
        x.talk(0, 0, 3);
        check.due(x, "leave(3) of three", x.leave(3, true), 1);
        check.due(x, "leave(2) of three", x.leave(2, true), 0);
        check.due("two are read", x.heard(1), 2);
    }

    private void heardWords() {
        holds("`int heard(long word)`: COUNT of a WORD, as a number (1).");
        AskBack x = with("key a rank 1; when * say 1;", "a a a a a a a a a a a a");
        check.due(x, "without a talk", x.heard(1), 0, 0);
        check.refused(x, "no word, without a talk", x.heard(0), 1);
        x.tray(0, 0, 15);
        x.talk(0, 0, 15);
        check.due(x, "as many as can be", x.heard(1), 360, 0);
        check.due(x, "a word that is nowhere", x.heard(2), 0, 0);
        for (long none : new long[] {0, -1, 27, Long.MIN_VALUE, Long.MAX_VALUE}) {
            check.refused(x, "heard(" + none + ")", x.heard(none), 1);
        }
    }
}
