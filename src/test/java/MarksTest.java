/** Promises 43 and 44 (and 2): marks, and what is taken back to them and what is not. */
public final class MarksTest {
    private static final Check CHECK = new Check();

    public static void main(String[] args) {
        counting();
        takingBack();
        whatStays();
        CHECK.end();
    }

    private static void counting() {
        AskBack x = new AskBack();
        CHECK.refused(x, "back() of none", x.back(), 6);
        for (int i = 1; i <= 3; i++) {
            CHECK.due(x, "mark()", x.mark(), i, 0);
        }
        CHECK.refused(x, "a 4th mark", x.mark(), 4);
        for (int i = 2; i >= 0; i--) {
            CHECK.due(x, "back()", x.back(), i, 0);
        }
        CHECK.refused(x, "back() of none", x.back(), 6);
        CHECK.due(x, "mark() again", x.mark(), 1, 0);
    }

    private static void takingBack() {
        AskBack x = new AskBack();
        Check.script(x, 0, "turn my your; key my rank 1; keep * my ? say of my 2; when * my * say 1 or hm or 2 so;"
                + " none n or go my;");
        int my = Check.line(x, "my dog");
        int q = Check.line(x, "q");
        x.broken(1, 2);
        x.say(0, my);
        CHECK.due("mark()", x.mark(), 1);
        CHECK.says(x, 0, my, "hm");
        CHECK.says(x, 0, q, "of my dog");
        x.broken(2, 3);
        Check.line(x, "new");
        CHECK.due("mark()", x.mark(), 2);
        Check.script(x, 0, "none other;");
        Check.script(x, 2, "none more;");
        x.broken(3, 4);
        Check.line(x, "newer");
        CHECK.says(x, 0, q, "other");
        CHECK.due("back()", x.back(), 1);
        CHECK.due("lines", x.many(0), 3);
        CHECK.due("couples", x.many(1), 2);
        CHECK.due("rules", x.count(0, 1), 2);
        CHECK.due("turns", x.count(0, 2), 1);
        CHECK.due("remembered", x.count(0, 3), 1);
        CHECK.due("whose turn", x.rule(0, 1, 3), 2);
        CHECK.due("the third script is empty again", x.say(2, q), 0);
        CHECK.refused(x, "the line is gone", x.word(3, 0), 1);
        CHECK.due(x, "a line more", Check.line(x, "newest"), 3, 0);
        CHECK.says(x, 0, my, "dog so");
        CHECK.due("back()", x.back(), 0);
        CHECK.due("lines", x.many(0), 2);
        CHECK.due("couples", x.many(1), 1);
        CHECK.due("remembered", x.count(0, 3), 1);
        CHECK.due("whose turn", x.rule(0, 1, 3), 1);
        CHECK.says(x, 0, q, "of my dog");
        CHECK.says(x, 0, q, "n");
        CHECK.says(x, 0, my, "hm");
        CHECK.due("the first line", x.word(my, 1), Check.word("dog"));
    }

    /** Trays, the tape, the talk, the fraction and what was told latest are no part of a mark. */
    private static void whatStays() {
        AskBack x = new AskBack();
        x.mark();
        Check.script(x, 0, "key a rank 1; when * a say 1 b; none n;");
        Check.line(x, "x a");
        Check.line(x, "x b");
        x.fit(0, 0, 0);
        x.say(0, 0);
        Check.fill(x, 0, 0, 0);
        x.talk(0, 0, 2);
        x.odds(8);
        x.lead(0, 0, 1, 1);
        x.least(0, 0, 2);
        x.orders(0);
        x.face(0, 0, 0, 9);
        x.leave(1, true);
        Check.line(x, "!");
        Check.feed(x, "a");
        CHECK.due(x, "back()", x.back(), 0, 0);
        CHECK.due("lines", x.many(0), 0);
        CHECK.due("the tape", x.feed(0, 0, 0, 0, 0), 40);
        CHECK.due("the tray", x.read(0, 1), 0);
        CHECK.due("status", x.status(), 0);
        CHECK.due("the talk", x.many(2), 2);
        CHECK.due("its words", x.spoken(1, 1), Check.word("b"));
        CHECK.due("what is kept from reading", x.heard(Check.word("x")), 2);
        CHECK.due("the fraction", x.bottom(), 2);
        CHECK.due("the fault", x.fault(0), 1);
        CHECK.due("what was said", x.said(1), Check.word("b"));
        CHECK.due("how", x.how(2), 0);
        CHECK.due("the gap", x.gap(1, 1), 1);
        CHECK.due("led", x.led(0), 0);
        CHECK.due("leastSet", x.leastSet(), 1);
        CHECK.due("the ring", x.ring(1) > 0, true);
        CHECK.due("the keys that orders() had", x.ahead(0, 0), -1);
        CHECK.due("one and the same", x.status(), 1);
        CHECK.due(x, "orders of the talk's own lines", x.orders(0), 0, 0);
        CHECK.due("the tape is emptied", x.script(2, 0), 0);
        Check.script(x, 1, "none x b;");
        CHECK.due(x, "orders of the talk's own lines", x.orders(1), 1, 0);
    }
}
