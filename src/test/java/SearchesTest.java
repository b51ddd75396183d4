/** Promises 27 to 33 and 37 to 40: lead, face to face, broken couples and mends, least, orders. */
public final class SearchesTest {
    private static final Check CHECK = new Check();

    public static void main(String[] args) {
        leads();
        leadsByMemory();
        wrongLeads();
        rings();
        ringAtTheEnd();
        ringOfAllSayings();
        ringBeyondTheEnd();
        ringOfMemory();
        couples();
        mends();
        leasts();
        leastOfMany();
        orders();
        ordersOfAnother();
        CHECK.end();
    }

    /** Promises 27 and 28. */
    private static void leads() {
        AskBack x = new AskBack();
        Check.script(x, 0, "key a rank 1; when a say p or q or r or s; none n or o;");
        String[] lines = {"z", "a", "s", "o", "p", "never", "r"};
        for (String line : lines) {
            Check.line(x, line);
        }
        CHECK.refused(x, "led ahead of any", x.led(0), 6);
        CHECK.refused(x, "led(-1) ahead of any", x.led(-1), 1);
        Check.fill(x, 0, 0, 1, 1);
        lead(x, 4, 1);
        lead(x, 2, 1, 1, 1, 1);
        lead(x, 3, 0, 0);
        x.say(0, 1);
        lead(x, 6, 1, 1, 1);
        CHECK.due("the script's own state stays", x.rule(0, 0, 3), 1);
        CHECK.refused(x, "never", x.lead(0, 0, 3, 5), 6);
        CHECK.due("led() stays", x.led(2), 1);
        Check.script(x, 0, "key a rank 1; when a say p or go c; key c rank 0; when a say c or c or o or z;");
        CHECK.refused(x, "in six", x.lead(0, 0, 2, 3), 6);
        Check.script(x, 0, "key a rank 1; when a say p or go c; key c rank 0; when a say c or o;");
        lead(x, 3, 1, 1, 1, 1);
        // to z it says n, n, n, n by b and c, and then o: five is the most
        Check.script(x, 0, "key z rank 1; when z say go b or go c or n; key b rank 0; when z say n or go c;"
                + " key c rank 0; when z say n or n or o;");
        lead(x, 3, 0, 0, 0, 0, 0);
    }

    /** Leads over the first three numbers of tray 0. */
    private static void lead(AskBack x, int goal, int... want) {
        CHECK.due(x, "lead to " + goal, x.lead(0, 0, 3, goal), want.length, 0);
        for (int i = 0; i < want.length; i++) {
            CHECK.due(x, "led(" + i + ")", x.led(i), want[i], 0);
        }
        CHECK.refused(x, "led behind the last", x.led(want.length), 6);
        CHECK.refused(x, "led(-1)", x.led(-1), 1);
    }

    /** Of several rows the first by the places in the tray, not by the lines' numbers; nothing is a line of no words. */
    private static void leadsByMemory() {
        AskBack x = new AskBack();
        Check.script(x, 0, "key my rank 1; keep my ? say of 1; when my ? say well;");
        String[] lines = {"my a", "my b", "q", "of a", "of b", ""};
        for (String line : lines) {
            Check.line(x, line);
        }
        Check.fill(x, 0, 2, 1, 0);
        lead(x, 3, 0, 2);
        lead(x, 4, 1, 2);
        lead(x, 5, 2);
        Check.script(x, 0, "key my rank 1; keep my ? say of z; when my ? say well;");
        Check.line(x, "of z");
        lead(x, 6, 1, 2);
    }

    private static void wrongLeads() {
        AskBack x = new AskBack();
        Check.line(x, "a");
        CHECK.refused(x, "no script", x.lead(3, 0, 1, 0), 1);
        CHECK.refused(x, "no tray", x.lead(0, 4, 1, 0), 1);
        CHECK.refused(x, "none", x.lead(0, 0, 0, 0), 1);
        CHECK.refused(x, "seven", x.lead(0, 0, 7, 0), 1);
        CHECK.refused(x, "no line", x.lead(0, 0, 1, 1), 1);
        CHECK.refused(x, "no line", x.lead(0, 0, 1, -1), 1);
        CHECK.refused(x, "a missing tray", x.lead(0, 0, 6, 0), 2);
        Check.fill(x, 0, 0, 1, 0);
        CHECK.refused(x, "too few", x.lead(0, 0, 6, 0), 3);
        CHECK.refused(x, "no line", x.lead(0, 0, 2, 0), 1);
        CHECK.refused(x, "no lead", x.lead(0, 0, 1, 0), 6);
        x.tray(0, 0, 6);
        CHECK.refused(x, "six", x.lead(0, 0, 6, 0), 6);
        CHECK.refused(x, "led", x.led(0), 6);
    }

    private static void ring(AskBack x, int ahead, int in) {
        CHECK.due(x, "ring(0)", x.ring(0), ahead, ahead < 0 ? 6 : 0);
        CHECK.due(x, "ring(1)", x.ring(1), in, in < 0 ? 6 : 0);
    }

    /** Promises 29 and 30. */
    private static void rings() {
        AskBack x = new AskBack();
        int hi = Check.line(x, "hi");
        Check.line(x, "");
        CHECK.refused(x, "ring ahead of any", x.ring(0), 6);
        CHECK.refused(x, "ring(2)", x.ring(2), 1);
        CHECK.refused(x, "ring(-1)", x.ring(-1), 1);
        CHECK.due(x, "two empty ones", x.face(0, 1, hi, 200), 3, 0);
        ring(x, 1, 2);
        CHECK.due(x, "one with itself, from no words", x.face(0, 0, 1, 200), 2, 0);
        ring(x, 0, 2);
        Check.script(x, 0, "none a or b or c;");
        Check.script(x, 1, "none x or y;");
        // the first says a b c a b c to x y x y x y: six sayings of each till both are as they were
        CHECK.due(x, "turns", x.face(0, 1, hi, 200), 13, 0);
        ring(x, 1, 12);
        CHECK.due(x, "at most 12", x.face(0, 1, hi, 12), 12, 0);
        ring(x, -1, -1);
        CHECK.due(x, "at most 13", x.face(0, 1, hi, 13), 13, 0);
        ring(x, 1, 12);
        CHECK.due(x, "at most 1", x.face(0, 1, hi, 1), 1, 0);
        ring(x, -1, -1);
        Check.line(x, "y");
        CHECK.due(x, "from where it goes round", x.face(0, 1, 2, 200), 12, 0);
        ring(x, 0, 12);
        x.say(0, hi);
        CHECK.due(x, "both are fresh", x.face(0, 1, 2, 200), 12, 0);
        CHECK.due("their own states stay", x.rule(0, 0, 3), -1);
        CHECK.says(x, 0, hi, "b");
        CHECK.refused(x, "at most 0", x.face(0, 1, 0, 0), 1);
        CHECK.refused(x, "at most 201", x.face(0, 1, 0, 201), 1);
        CHECK.refused(x, "no script", x.face(3, 1, 0, 9), 1);
        CHECK.refused(x, "no script", x.face(0, -1, 0, 9), 1);
        CHECK.refused(x, "no line", x.face(0, 1, 3, 9), 1);
        ring(x, 0, 12);
        Check.script(x, 2, "none a or b;");
        CHECK.due(x, "one with itself, as two", x.face(2, 2, hi, 200), 5, 0);
        ring(x, 1, 4);
    }

    /** "At most so many times" bounds the sayings: a ring is there when its own are done, if no other may follow. */
    private static void ringAtTheEnd() {
        AskBack x = new AskBack();
        int hi = Check.line(x, "hi");
        int silence = Check.line(x, "");
        CHECK.due(x, "two empty ones, at most 2", x.face(0, 1, hi, 2), 2, 0);
        ring(x, -1, -1);
        CHECK.due(x, "two empty ones, at most 3", x.face(0, 1, hi, 3), 3, 0);
        ring(x, 1, 2);
        CHECK.due(x, "two empty ones, at most 4", x.face(0, 1, hi, 4), 3, 0);
        ring(x, 1, 2);
        CHECK.due(x, "from no words, at most 1", x.face(0, 0, silence, 1), 1, 0);
        ring(x, -1, -1);
        CHECK.due(x, "from no words, at most 2", x.face(0, 0, silence, 2), 2, 0);
        ring(x, 0, 2);
    }

    /** Eight sayings go to words that never come again, then turns of 32 sayings against turns of 3: 192 sayings. */
    private static void ringOfAllSayings() {
        AskBack x = new AskBack();
        StringBuilder chain = new StringBuilder();
        for (char c = 's'; c < 'z'; c++) {
            chain.append("key ").append(c).append(" rank 1; when * say ").append((char) (c + 1)).append(';');
        }
        Check.script(x, 0, chain + "none go p or a or b or c; key p rank 1; when * say go q or d or e or f; "
                + "key q rank 1; when * say g or h;");
        Check.script(x, 1, chain + "none k or l or m;");
        int start = Check.line(x, "s");
        CHECK.due(x, "at most 199", x.face(0, 1, start, 199), 199, 0);
        ring(x, -1, -1);
        CHECK.due(x, "at most 200", x.face(0, 1, start, 200), 200, 0);
        ring(x, 8, 192);
    }

    /** Turns of 4, 16 and 64 sayings against turns of 3: 384 sayings till both are as they were. */
    private static void ringBeyondTheEnd() {
        AskBack x = new AskBack();
        int hi = Check.line(x, "hi");
        Check.script(x, 0, "none go p or a or b or c; key p rank 1; when * say go q or d or e or f; key q rank 1; "
                + "when * say x or y or z or w;");
        Check.script(x, 1, "none m or n or o;");
        CHECK.due(x, "200 sayings", x.face(0, 1, hi, 200), 200, 0);
        ring(x, -1, -1);
        CHECK.due(x, "and again", x.face(0, 1, hi, 200), 200, 0);
    }

    private static void ringOfMemory() {
        AskBack x = new AskBack();
        int my = Check.line(x, "my dog");
        Check.script(x, 0, "turn my your; turn your my; key my rank 1; keep * my ? say of your 2; when * my * say why 2;"
                + " key your rank 1; when * your ? say 1 my 2 too; none well;");
        Check.script(x, 1, "turn my your; key why rank 2; when why * say my 1 or stop; none my cat;");
        // why dog; my dog; why dog; stop; of your dog; my cat; ..: what is remembered grows to six of the cat
        int done = x.face(0, 1, my, 200);
        CHECK.due("it goes round", x.ring(0) + x.ring(1), done);
        CHECK.due("ahead of it what is remembered", x.ring(0) > 2, true);
        AskBack y = new AskBack();
        Check.script(y, 0, "key a rank 1; keep a say b; when * say a;");
        Check.script(y, 1, "none a;");
        int a = Check.line(y, "a");
        // one more is remembered by each saying of the first, up to six: these are there behind its sixth one
        CHECK.due("six remembered", y.face(0, 1, a, 200), 13);
        ring(y, 11, 2);
    }

    /** Promises 31 and 32. */
    private static void couples() {
        AskBack x = new AskBack();
        long a = Check.word("a");
        long b = Check.word("b");
        CHECK.refused(x, "broken(0, b)", x.broken(0, b), 1);
        CHECK.refused(x, "broken(a, 27)", x.broken(a, 27), 1);
        CHECK.due(x, "broken(a, b)", x.broken(a, b), 1, 0);
        CHECK.due("many(1)", x.many(1), 1);
        Check.script(x, 0, "key k rank 1; when k * say 1 or x; when * say z;");
        String[] lines = {"k b a", "k a", "k x a b", "k a b", "a b"};
        for (String line : lines) {
            Check.line(x, line);
        }
        Check.fill(x, 0, 0, 1, 4, 2, 3, 0, 9);
        CHECK.due(x, "broke of three", x.broke(0, 0, 3), -1, 0);
        CHECK.due(x, "broke of six", x.broke(0, 0, 6), 3, 0);
        x.say(0, 3);
        CHECK.due(x, "fresh each time", x.broke(0, 0, 5), 3, 0);
        CHECK.due("the script's own state stays", x.rule(0, 0, 3), 1);
        CHECK.refused(x, "no line", x.broke(0, 0, 7), 1);
        CHECK.refused(x, "too few", x.broke(0, 0, 8), 3);
        CHECK.refused(x, "none", x.broke(0, 0, 0), 1);
        CHECK.refused(x, "seventeen", x.broke(0, 0, 17), 1);
        CHECK.refused(x, "no script", x.broke(3, 0, 1), 1);
        CHECK.refused(x, "no tray", x.broke(0, 4, 1), 1);
        CHECK.refused(x, "a missing tray", x.broke(0, 1, 16), 2);
        x.tray(1, 0, 16);
        CHECK.due(x, "sixteen", x.broke(0, 1, 16), -1, 0);
        for (int i = 2; i <= 12; i++) {
            CHECK.due(x, "a couple more", x.broken(a, b), i, 0);
        }
        CHECK.refused(x, "a 13th couple", x.broken(a, b), 4);
        CHECK.refused(x, "no word comes first", x.broken(a, 0), 1);
        CHECK.due("many(1)", x.many(1), 12);
    }

    /** Promise 33. */
    private static void mends() {
        AskBack x = new AskBack();
        Check.script(x, 0, "turn i you; turn my your; key a rank 2; when * a say 1 dear; key b rank 1; keep * say 1;"
                + " when z say z; when * b * say 1 well;");
        Check.line(x, "my b a");
        Check.line(x, "q");
        Check.line(x, "i b my");
        Check.fill(x, 0, 1, 0, 0);
        x.broken(Check.word("your"), Check.word("b"));
        // "your b dear"; without rule 0 what b keeps is not kept, "your well"; without the second turn "my b dear"
        mend(x, 2, 1, 0, 1, 1);
        x.broken(Check.word("my"), Check.word("b"));
        mend(x, 2, 1, 0, 0, -1);
        x.broken(Check.word("your"), Check.word("well"));
        mend(x, 2, 0, -1, 0, -1);
        CHECK.refused(x, "none is broke", x.mend(0, 0, 1, 0), 6);
        CHECK.refused(x, "none is broke", x.mend(0, 0, 1, 3), 6);
        CHECK.refused(x, "what 4", x.mend(0, 0, 2, 4), 1);
        CHECK.refused(x, "what -1", x.mend(0, 0, 2, -1), 1);
        CHECK.refused(x, "no script", x.mend(3, 0, 2, 0), 1);
        CHECK.refused(x, "no tray", x.mend(0, -1, 2, 0), 1);
        CHECK.refused(x, "none", x.mend(0, 0, 0, 0), 1);
        CHECK.refused(x, "seventeen", x.mend(0, 0, 17, 0), 1);
        CHECK.refused(x, "a missing tray", x.mend(0, 2, 2, 0), 2);
        CHECK.refused(x, "too few", x.mend(0, 0, 4, 0), 3);
        x.write(0, 1, 3);
        CHECK.refused(x, "no line", x.mend(0, 0, 2, 0), 1);
        Check.fill(x, 0, 2);
        // "you well"; the keep's line is behind it, and is said without rule 3
        x.broken(Check.word("you"), Check.word("well"));
        mend(x, 1, 1, 3, 1, 0);
        x.broken(Check.word("you"), Check.word("b"));
        mend(x, 1, 0, -1, 1, 0);
        CHECK.due("all rules are there again", x.broke(0, 0, 1), 0);
        CHECK.says(x, 0, 2, "you well");
    }

    private static void mend(AskBack x, int many, int rules, int firstRule, int turns, int firstTurn) {
        int[] want = {rules, firstRule, turns, firstTurn};
        for (int what = 0; what < 4; what++) {
            CHECK.due(x, "mend " + what, x.mend(0, 0, many, what), want[what], want[what] < 0 ? 6 : 0);
        }
    }

    private static void least(AskBack x, int script, int tray, int many, int size, int set) {
        CHECK.due(x, "least", x.least(script, tray, many), size, 0);
        CHECK.due(x, "leastSet()", x.leastSet(), set, 0);
    }

    /** Promises 37 and 38. */
    private static void leasts() {
        AskBack x = new AskBack();
        Check.script(x, 0, "key a rank 2; when a a say p; when a * say p; keep * say k; key b rank 1; when * say q or p;"
                + " key c rank 1; when c say n; none n;");
        String[] lines = {"a a", "a b", "b", "z", "c"};
        for (String line : lines) {
            Check.line(x, line);
        }
        CHECK.refused(x, "leastSet ahead of any", x.leastSet(), 6);
        Check.fill(x, 0, 0, 1, 2, 3, 4, 3);
        least(x, 0, 0, 1, 1, 1);
        least(x, 0, 0, 2, 1, 2);
        least(x, 0, 0, 3, 2, 10);
        // what is remembered comes back, once by each of two lines
        least(x, 0, 0, 4, 3, 14);
        Check.fill(x, 1, 3, 4, 3);
        least(x, 0, 1, 3, 0, 0);
        least(x, 1, 0, 5, 0, 0);
        CHECK.refused(x, "no script", x.least(3, 0, 1), 1);
        CHECK.refused(x, "no tray", x.least(0, 4, 1), 1);
        CHECK.refused(x, "none", x.least(0, 0, 0), 1);
        CHECK.refused(x, "sixteen", x.least(0, 0, 16), 1);
        CHECK.refused(x, "a missing tray", x.least(0, 2, 15), 2);
        CHECK.refused(x, "too few", x.least(0, 0, 7), 3);
        x.write(0, 2, 5);
        CHECK.refused(x, "no line", x.least(0, 0, 3), 1);
        CHECK.due(x, "leastSet() stays", x.leastSet(), 0, 0);
        CHECK.says(x, 0, 1, "p");
    }

    private static void leastOfMany() {
        AskBack x = new AskBack();
        StringBuilder text = new StringBuilder("key a rank 1;");
        for (int i = 0; i < 12; i++) {
            text.append("when a ").append((char) ('a' + i)).append(" say ").append((char) ('a' + i)).append(";");
        }
        CHECK.due("twelve rules", Check.script(x, 0, text.toString()), 12);
        x.tray(0, 0, 15);
        for (int i = 0; i < 12; i++) {
            Check.line(x, "a " + (char) ('a' + i));
            x.write(0, i, i);
        }
        least(x, 0, 0, 15, 12, 4095);
        least(x, 0, 0, 7, 7, 127);
        CHECK.due("thirteen rules", Check.script(x, 0, text + "keep a say b;"), 13);
        CHECK.refused(x, "too many rules", x.least(0, 0, 15), 4);
        CHECK.refused(x, "too many rules, ahead of a missing tray", x.least(0, 1, 15), 4);
        CHECK.refused(x, "numbers come first", x.least(0, 0, 16), 1);
        CHECK.due("leastSet() stays", x.leastSet(), 127);
    }

    private static void ahead(AskBack x, int keys, int... want) {
        for (int a = 0; a < keys; a++) {
            for (int b = 0; b < keys; b++) {
                boolean one = a == b;
                CHECK.due(x, "ahead(" + a + ", " + b + ")", x.ahead(a, b), one ? -1 : want[a * keys + b], one ? 1 : 0);
            }
        }
    }

    /** Promises 39 and 40. */
    private static void orders() {
        AskBack x = new AskBack();
        CHECK.refused(x, "ahead ahead of any", x.ahead(0, 0), 6);
        CHECK.refused(x, "orders without a talk", x.orders(0), 6);
        CHECK.refused(x, "no script", x.orders(3), 1);
        CHECK.refused(x, "no script", x.orders(-1), 1);
        Check.script(x, 0, "key a rank 3; when * say ka; key b rank 2; when * say kb; key c rank 2; when * say kc;");
        Check.line(x, "a b");
        Check.line(x, "c b");
        Check.line(x, "b c");
        Check.line(x, "z");
        Check.fill(x, 0, 0, 3, 1);
        x.talk(0, 0, 2);
        CHECK.due(x, "a ahead of b", x.orders(0), 3, 0);
        ahead(x, 3, 0, 3, 2, 0, 0, 1, 1, 2, 0);
        CHECK.refused(x, "ahead(0, 3)", x.ahead(0, 3), 1);
        CHECK.refused(x, "ahead(-1, 0)", x.ahead(-1, 0), 1);
        x.talk(0, 0, 3);
        CHECK.due(x, "a and c ahead of b", x.orders(0), 2, 0);
        ahead(x, 3, 0, 2, 1, 0, 0, 0, 1, 2, 0);
        Check.fill(x, 0, 1, 2);
        x.talk(0, 0, 2);
        CHECK.due(x, "no order, for the ranks are like", x.orders(0), 0, 0);
        ahead(x, 3, 0, 0, 0, 0, 0, 0, 0, 0, 0);
        Check.fill(x, 0, 3);
        x.talk(0, 0, 1);
        CHECK.due(x, "any order", x.orders(0), 6, 0);
        ahead(x, 3, 0, 3, 3, 3, 0, 3, 3, 3, 0);
        CHECK.due(x, "the order of no keys", x.orders(1), 1, 0);
        CHECK.refused(x, "no key of it", x.ahead(0, 1), 1);
        Check.script(x, 1, "key z rank 0; when z say so;");
        CHECK.due(x, "another script says other things", x.orders(1), 0, 0);
    }

    /** An order also tells whose keeps are kept. */
    private static void ordersOfAnother() {
        AskBack x = new AskBack();
        StringBuilder text = new StringBuilder();
        for (int i = 0; i < 6; i++) {
            text.append("key ").append((char) ('a' + i)).append(" rank 1;keep * say k").append((char) ('a' + i));
            text.append(";");
        }
        Check.script(x, 0, text.toString());
        Check.line(x, "c a b d e f");
        x.tray(0, 0, 1);
        x.talk(0, 0, 1);
        CHECK.due(x, "c ahead of all", x.orders(0), 120, 0);
        CHECK.due("ahead(2, 5)", x.ahead(2, 5), 120);
        CHECK.due("ahead(5, 2)", x.ahead(5, 2), 0);
        CHECK.due("ahead(0, 5)", x.ahead(0, 5), 60);
        Check.script(x, 0, text + "key g rank 1;");
        CHECK.refused(x, "too many keys", x.orders(0), 4);
        CHECK.due("orders() latest with 0", x.ahead(0, 5), 60);
        AskBack y = new AskBack();
        Check.script(y, 0, text + "key g rank 1;");
        CHECK.refused(y, "too many keys, ahead of no talk", y.orders(0), 4);
    }
}
