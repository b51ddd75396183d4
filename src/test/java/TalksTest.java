/** Promises 25, 26, 34 to 36, 41 and 42 (with 3, 4 and 13): talks, and what may be said of the latest one. */
public final class TalksTest {
    private static final Check CHECK = new Check();

    public static void main(String[] args) {
        withoutTalk();
        talks();
        wrongTalks();
        oddsOfPowers();
        doubts();
        claims();
        emptyAnswers();
        reading();
        CHECK.end();
    }

    private static void withoutTalk() {
        AskBack x = new AskBack();
        CHECK.due(x, "many(2)", x.many(2), 0, 0);
        CHECK.refused(x, "spoken(0, -1)", x.spoken(0, -1), 6);
        CHECK.due(x, "doubt(1)", x.doubt(1), -1, 0);
        CHECK.due(x, "odds(0)", x.odds(0), 0);
        CHECK.due("top()", x.top(), 1);
        CHECK.due("bottom()", x.bottom(), 1);
        for (int claim = 0; claim < 4; claim++) {
            CHECK.due(x, "claim", x.claim(claim), -1, 0);
        }
        CHECK.due(x, "leave(0, true)", x.leave(0, true), 1);
        CHECK.due(x, "heard(1)", x.heard(1), 0, 0);
    }

    private static AskBack talker() {
        AskBack x = new AskBack();
        Check.script(x, 0, "turn my your; key a rank 1; keep * my * say of 2; when * a say 1 b or hm or go c;"
                + " key c rank 0; when * say led; none so;");
        Check.line(x, "my x a");
        Check.line(x, "a");
        Check.line(x, "q");
        return x;
    }

    /** Promises 25 and 26. */
    private static void talks() {
        AskBack x = talker();
        x.say(0, 1);
        x.say(0, 0);
        Check.fill(x, 1, 0, 1, 1, 2, 2, 0, 2, 9);
        CHECK.due(x, "talk(0, 1, 7)", x.talk(0, 1, 7), 2, 0);
        CHECK.due("many(2)", x.many(2), 7);
        String[] want = {"your x b", "hm", "led", "of x a", "so", "your x b", "of x a"};
        for (int k = 0; k < want.length; k++) {
            String[] words = want[k].split(" ");
            CHECK.due(x, "spoken(" + k + ", -1)", x.spoken(k, -1), words.length, 0);
            for (int i = 0; i < words.length; i++) {
                CHECK.due(x, "spoken(" + k + ", " + i + ")", x.spoken(k, i), Check.word(words[i]), 0);
            }
            CHECK.refused(x, "a word too far", x.spoken(k, words.length), 6);
        }
        CHECK.refused(x, "spoken(7, -1)", x.spoken(7, -1), 6);
        CHECK.refused(x, "spoken(-1, -1)", x.spoken(-1, -1), 1);
        CHECK.refused(x, "spoken(0, 12)", x.spoken(0, 12), 1);
        CHECK.refused(x, "spoken(0, 11)", x.spoken(0, 11), 6);
        CHECK.refused(x, "spoken(0, -2)", x.spoken(0, -2), 1);
        CHECK.refused(x, "spoken(9, -2)", x.spoken(9, -2), 1);
        CHECK.due("the script's own state stays", x.rule(0, 1, 3), 2);
        CHECK.due("and what it remembers", x.count(0, 3), 1);
        CHECK.due("how() is of say()", x.how(3), 1);
        CHECK.due(x, "talk(1, 1, 1)", x.talk(1, 1, 1), 0, 0);
        CHECK.due("the latest talk", x.many(2), 1);
        CHECK.due("says nothing", x.spoken(0, -1), 0);
    }

    private static void wrongTalks() {
        AskBack x = talker();
        CHECK.refused(x, "no script", x.talk(3, 0, 1), 1);
        CHECK.refused(x, "no script", x.talk(-1, 0, 1), 1);
        CHECK.refused(x, "no tray", x.talk(0, 4, 1), 1);
        CHECK.refused(x, "none at all", x.talk(0, 0, 0), 1);
        CHECK.refused(x, "sixteen", x.talk(0, 0, 16), 1);
        CHECK.refused(x, "a missing tray", x.talk(0, 0, 15), 2);
        Check.fill(x, 0, 0, 1, 2, 3, -1, 0);
        CHECK.refused(x, "too few", x.talk(0, 0, 7), 3);
        CHECK.refused(x, "too few, ahead of a line", x.talk(0, 0, 15), 3);
        CHECK.refused(x, "no such line", x.talk(0, 0, 4), 1);
        CHECK.due("no talk by these", x.many(2), 0);
        CHECK.due(x, "lines as far as asked for", x.talk(0, 0, 3), 1, 0);
        x.write(0, 0, -1);
        CHECK.refused(x, "line -1", x.talk(0, 0, 1), 1);
        x.tray(1, 3, 1);
        x.write(1, 0, 1L << 32);
        CHECK.refused(x, "a line far out", x.talk(0, 1, 1), 1);
        CHECK.due("the talk stays", x.many(2), 3);
        x.tray(2, 2, 15);
        CHECK.due(x, "fifteen", x.talk(0, 2, 15), 5, 0);
    }

    /** Promises 3, 4 and 35. */
    private static void oddsOfPowers() {
        AskBack x = new AskBack();
        Check.script(x, 0, "none so;");
        Check.line(x, "a");
        x.tray(0, 0, 15);
        x.talk(0, 0, 15);
        long[][] want = {{0, 1}, {1, 1L << 56}, {1, 1L << 42}, {4782969, 1L << 56}, {1, 1L << 28}};
        for (int of = 0; of < want.length; of++) {
            fraction(x, of, want[of][0], want[of][1]);
        }
        fraction(x, 8, 1, 1L << 14);
        fraction(x, 12, 4782969, 1L << 28);
        fraction(x, 15, 29192926025390625L, 1L << 56);
        fraction(x, 16, 1, 1);
        CHECK.due(x, "odds(17)", x.odds(17), 1);
        CHECK.due("the fraction stays", x.top(), 1);
        x.odds(3);
        CHECK.due(x, "odds(-1)", x.odds(-1), 1);
        CHECK.due("the fraction stays", x.top(), 4782969);
        CHECK.due("the fraction stays", x.bottom(), 1L << 56);
        x.talk(0, 0, 1);
        CHECK.due("a talk tells no fraction", x.bottom(), 1L << 56);
        fraction(x, 0, 1, 1);
        x.talk(1, 0, 9);
        fraction(x, 5, 1, 1);
    }

    private static void fraction(AskBack x, int of, long top, long bottom) {
        CHECK.due(x, "odds(" + of + ")", x.odds(of), 0);
        CHECK.due("top() of " + of, x.top(), top);
        CHECK.due("bottom() of " + of, x.bottom(), bottom);
    }

    /** Promise 34. */
    private static void doubts() {
        AskBack x = new AskBack();
        Check.script(x, 0, "none so or well;");
        Check.line(x, "a");
        x.tray(0, 0, 15);
        x.talk(0, 0, 15);
        for (int n = 1; n <= 9; n++) {
            CHECK.due(x, "doubt(" + n + ")", x.doubt(n), n <= 7 ? 2 * n : -1, 0);
        }
        CHECK.refused(x, "doubt(0)", x.doubt(0), 1);
        CHECK.refused(x, "doubt(10)", x.doubt(10), 1);
        fraction(x, 8, 1, 1L << 13);
        x.talk(1, 0, 15);
        CHECK.due(x, "nothing is no saying", x.doubt(1), -1, 0);
    }

    /** Promise 36. */
    private static void claims() {
        AskBack x = new AskBack();
        Check.script(x, 0, "key a rank 1; keep * say 1; when a say x or b or go c;"
                + "key c rank 0; when * say led; key d rank 2; when * d say 1 e;");
        Check.line(x, "d");
        Check.line(x, "x d");
        Check.line(x, "q");
        Check.line(x, "a");
        Check.fill(x, 0, 0, 1, 3, 3, 3, 2, 2, 2, 2, 0);
        CHECK.due("talk", x.talk(0, 0, 10), 3);
        CHECK.due(x, "claim(0)", x.claim(0), 8, 0);
        CHECK.due(x, "claim(1)", x.claim(1), 6, 0);
        CHECK.due(x, "claim(2)", x.claim(2), -1, 0);
        CHECK.due(x, "claim(3)", x.claim(3), 2, 0);
        CHECK.refused(x, "claim(4)", x.claim(4), 1);
        CHECK.refused(x, "claim(-1)", x.claim(-1), 1);
        x.broken(Check.word("e"), Check.word("x"));
        CHECK.due(x, "claim(2), the other way round", x.claim(2), -1, 0);
        x.broken(Check.word("x"), Check.word("e"));
        CHECK.due(x, "claim(2), broken", x.claim(2), 1, 0);
        Check.fill(x, 0, 2, 0);
        x.talk(0, 0, 2);
        CHECK.due("claim(0)", x.claim(0), 0);
        CHECK.due("claim(3) by nothing", x.claim(3), 0);
        x.talk(0, 0, 1);
        CHECK.due("claim(1) by nothing", x.claim(1), -1);
        Check.script(x, 1, "none so;");
        Check.fill(x, 0, 0, 0);
        x.talk(1, 0, 2);
        CHECK.due("claim(3) by none", x.claim(3), 0);
        CHECK.due("claim(0) by none", x.claim(0), -1);
        CHECK.due("claim(1) by none", x.claim(1), 1);
    }

    /** An answer of no words is of kind 0, not nothing. */
    private static void emptyAnswers() {
        AskBack x = new AskBack();
        Check.script(x, 0, "key a rank 1; when * a say 1;");
        Check.line(x, "a");
        Check.line(x, "q");
        Check.fill(x, 0, 1, 0, 1, 0);
        CHECK.due("talk", x.talk(0, 0, 4), 2);
        CHECK.due("claim(0)", x.claim(0), 0);
        CHECK.due("claim(1)", x.claim(1), 3);
        CHECK.due("doubt(1)", x.doubt(1), 3);
        fraction(x, 4, 1, 4);
    }

    /** Promises 41 and 42. */
    private static void reading() {
        AskBack x = talker();
        Check.fill(x, 0, 0, 1, 0);
        x.talk(0, 0, 3);
        CHECK.due(x, "heard(my)", x.heard(Check.word("my")), 2, 0);
        CHECK.due(x, "heard(x)", x.heard(Check.word("x")), 3, 0);
        CHECK.due(x, "heard(a)", x.heard(Check.word("a")), 3, 0);
        CHECK.due(x, "heard(zz)", x.heard(Check.word("zz")), 0, 0);
        CHECK.refused(x, "heard(0)", x.heard(0), 1);
        CHECK.refused(x, "heard(-1)", x.heard(-1), 1);
        CHECK.refused(x, "heard(28)", x.heard(28), 1);
        CHECK.due(x, "leave(0, true)", x.leave(0, true), 0);
        CHECK.due(x, "leave(0, true)", x.leave(0, true), 0);
        CHECK.due("heard(x)", x.heard(Check.word("x")), 1);
        CHECK.due(x, "leave(2, true)", x.leave(2, true), 0);
        CHECK.due("heard(x)", x.heard(Check.word("x")), 0);
        CHECK.due("heard(hm)", x.heard(Check.word("hm")), 1);
        CHECK.due(x, "leave(3, true)", x.leave(3, true), 1);
        CHECK.due(x, "leave(-1, true)", x.leave(-1, true), 1);
        CHECK.due(x, "leave(0, false)", x.leave(0, false), 0);
        CHECK.due("heard(x)", x.heard(Check.word("x")), 2);
        CHECK.due("spoken() is not kept", x.spoken(2, -1), 1);
        x.talk(0, 0, 3);
        CHECK.due("nothing is kept from reading at first", x.heard(Check.word("x")), 3);
    }
}
