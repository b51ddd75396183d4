/** Lead, face to face, broken couples, mends, least and orders, behind ==== 4, and promises 27 to 33 and 37 to 40. */
final class EdgesOfSearches extends Edges {
    /** A call over so many lines in a tray. */
    private interface Over {
        int ask(AskBack x, int script, int tray, int many);
    }

    EdgesOfSearches(Check check, Document document) {
        super(check, document);
    }

    @Override
    void hold() {
        trayCalls();
        leads();
        leadOfFive();
        leadOfSix();
        firstRow();
        led();
        faces();
        ringsOfLines();
        ringsOfTurns();
        ringsOfMemory();
        mostSayings();
        faceCalls();
        couples();
        broke();
        mends();
        mendsOfAll();
        mendCalls();
        leasts();
        leastOfTwelve();
        leastSets();
        orders();
        ordersOfTalks();
        ordersOfSix();
        aheads();
    }

    private void trayCalls() {
        holds("(1; 2; 3; 1: a LINE; in this order).");
        overLines("talk", 15, AskBack::talk);
        overLines("broke", 16, AskBack::broke);
        for (int what : new int[] {0, 2}) {
            overLines("mend " + what, 16, (x, script, tray, many) -> x.mend(script, tray, many, what));
        }
        holds("`int lead(int script, int tray, int many, int line)`: LEAD to a LINE: how many LINES (1; 2; 3; 1: a LINE; 6:"
                + " none; in this order).");
        overLines("lead", 6, (x, script, tray, many) -> x.lead(script, tray, many, 1));
        holds("`int least(int script, int tray, int many)`: LEAST: how many RULES (1; 4; 2; 3; 1: a LINE; in this order).");
        overLines("least", 15, AskBack::least);
    }

    private void overLines(String name, int most, Over call) {
        AskBack x = with("key a rank 1; when * say b b; none b b;", "a", "b b");
        x.broken(2, 2);
        for (int wrong : new int[] {-1, 3, FAR[0], FAR[3]}) {
            check.refused(x, name + " of script " + wrong, call.ask(x, wrong, 0, 1), 1);
        }
        for (int wrong : new int[] {-1, 4, FAR[0], FAR[3]}) {
            check.refused(x, name + " of tray " + wrong, call.ask(x, 0, wrong, 1), 1);
        }
        for (int wrong : new int[] {0, -1, most + 1, FAR[0], FAR[3]}) {
            check.refused(x, name + " of " + wrong + " lines", call.ask(x, 0, 0, wrong), 1);
        }
        check.refused(x, name + " of a missing tray", call.ask(x, 0, 0, 1), 2);
        check.refused(x, name + " of a missing tray", call.ask(x, 0, 3, most), 2);
        x.tray(0, 0, 0);
        check.refused(x, name + " of a tray of none", call.ask(x, 0, 0, 1), 3);
        x.tray(0, 0, most - 1);
        x.write(0, 0, 9);
        check.refused(x, name + " of too few, ahead of no such line", call.ask(x, 0, 0, most), 3);
        check.refused(x, name + " of no such line", call.ask(x, 0, 0, most - 1), 1);
        x.tray(0, 0, most);
        check.due(name + " of the most", call.ask(x, 0, 0, most) >= 0, true);
        for (int wrong : new int[] {2, -1, 127, 255}) {
            x.write(0, most - 1, wrong);
            check.refused(x, name + " with the last line " + wrong, call.ask(x, 0, 0, most), 1);
            check.due(name + " of all ahead of it", call.ask(x, 0, 0, most - 1) >= 0, true);
        }
        x.write(0, most - 1, 257);
        check.due(name + " of a line cut to 8 bits", call.ask(x, 0, 0, most) >= 0, true);
        x.tray(1, 3, 60);
        for (long wrong : new long[] {1L << 32, 1L << 32 | 1, -1L << 32, Long.MIN_VALUE, Long.MAX_VALUE}) {
            x.write(1, 0, wrong);
            check.refused(x, name + " of a line far out", call.ask(x, 0, 1, 1), 1);
        }
        x.write(1, 0, 0);
        check.due(name + " of the first of sixty", call.ask(x, 0, 1, 1) >= 0, true);
        check.due("status", x.status(), 0);
    }

    private void leads() {
        holds("LEAD: the fewest LINES (1 to 5)");
        AskBack x = with("key a rank 1; when a say p or q or r or go b; key b rank 0; when a say s or t;", "a", "p", "q", "r",
                "s", "t", "");
        x.tray(0, 0, 1);
        for (int goal = 1; goal <= 4; goal++) {
            check.due(x, "lead to line " + goal, x.lead(0, 0, 1, goal), goal, 0);
            for (int k = 0; k < goal; k++) {
                check.due(x, "led(" + k + ")", x.led(k), 0, 0);
            }
            check.refused(x, "led behind the last", x.led(goal), 6);
        }
        check.refused(x, "eight would do", x.lead(0, 0, 1, 5), 6);
        check.refused(x, "never", x.lead(0, 0, 1, 6), 6);
        check.refused(x, "never", x.lead(0, 0, 1, 0), 6);
    }

    /** Turns of one answer and then of four: the fifth saying, and the sixth, which is too far. */
    private void leadOfFive() {
        AskBack x = with("key a rank 1; when a say go b or go b or go b or p; key b rank 0; when a say q or r or s or t;", "a",
                "t", "q", "p");
        given(x, 1, "key a rank 1; when a say p or go b; key b rank 0; when a say q or r or t;");
        x.tray(0, 0, 1);
        // q r s p t: five lines; p q p r p t: six
        check.due(x, "five", x.lead(0, 0, 1, 1), 5, 0);
        check.due(x, "the fifth", x.led(4), 0, 0);
        check.refused(x, "a sixth", x.led(5), 6);
        check.refused(x, "six", x.lead(1, 0, 1, 1), 6);
        check.due(x, "led() is of the latest with 0", x.led(4), 0, 0);
        check.due(x, "one", x.lead(1, 0, 1, 3), 1, 0);
        check.refused(x, "a second", x.led(1), 6);
    }

    private void leadOfSix() {
        holds("out of so many (a TRAY, 1 to 6 LINES, each any number of times) with which a FRESH SCRIPT comes to say a told"
                + " LINE (to the last one);");
        AskBack x = with("key f rank 1; when f say go g or n; key g rank 0; when f say m or l; none o or k;", "a", "b", "c", "d",
                "e", "f", "g", "n", "l", "k", "");
        x.say(0, 0);
        x.say(0, 5);
        Check.fill(x, 0, 0, 1, 2, 3, 4, 5, 6);
        check.due(x, "the sixth line", x.lead(0, 0, 6, 7), 2, 0);
        check.due("led(0)", x.led(0), 5);
        check.due("led(1)", x.led(1), 5);
        check.refused(x, "of five, without it", x.lead(0, 0, 5, 7), 6);
        check.due(x, "a line three times", x.lead(0, 0, 6, 8), 3, 0);
        check.due(x, "none's second answer", x.lead(0, 0, 6, 9), 2, 0);
        check.due("the script's own state stays", x.rule(0, 0, 3), 1);
        check.says(x, 0, 0, "k");
        check.says(x, 0, 5, "n");
        // fresh, whatever was searched for ahead of it
        for (int i = 0; i < 2; i++) {
            Check.fill(x, 1, 0);
            x.talk(0, 1, 1);
            check.due(x, "behind a talk", x.lead(0, 1, 1, 9), 2, 0);
        }
        given(x, 0, "");
        check.due(x, "to a line of no words", x.lead(0, 0, 1, 10), 1, 0);
        given(x, 0, "key a rank 1; when * a say 1; none o;");
        check.due(x, "by an answer of no words, too", x.lead(0, 0, 6, 10), 1, 0);
        check.due("led(0)", x.led(0), 0);
    }

    private void firstRow() {
        holds("of several the first row (by their places in the TRAY).");
        AskBack x = with("key m rank 1; keep m ? say 1; when m ? say so; none n;", "q", "m x", "m y", "x", "m x", "r", "n");
        row(x, new int[] {2, 1, 4, 0, 5}, 3, 1, 0);
        row(x, new int[] {5, 0, 4, 1, 2}, 3, 4, 5);
        row(x, new int[] {4, 1, 5, 0}, 3, 4, 5);
        row(x, new int[] {2, 0, 5}, 6, 0);
        row(x, new int[] {1, 1, 0, 0}, 3, 1, 0);
    }

    private void row(AskBack x, int[] lines, int goal, int... want) {
        Check.fill(x, 0, lines);
        check.due(x, "lead", x.lead(0, 0, lines.length, goal), want.length, 0);
        for (int k = 0; k < want.length; k++) {
            check.due(x, "led(" + k + ")", x.led(k), want[k], 0);
        }
    }

    private void led() {
        holds("`int led(int k)`: The k-th LINE of LEAD, by lead() latest with STATUS 0 (1: below 0; 6).");
        AskBack x = with("none n or m;", "q", "m", "n");
        check.refused(x, "ahead of any", x.led(0), 6);
        for (int k : new int[] {-1, FAR[0]}) {
            check.refused(x, "led(" + k + ")", x.led(k), 1);
        }
        x.tray(0, 0, 2);
        x.lead(0, 0, 7, 1);
        check.refused(x, "behind a refused one", x.led(0), 6);
        x.write(0, 0, 2);
        check.due(x, "lead", x.lead(0, 0, 1, 1), 2, 0);
        x.lead(0, 0, 1, 0);
        check.due("none such", x.status(), 6);
        x.lead(0, 0, 1, 3);
        check.due("no such goal", x.status(), 1);
        x.write(0, 0, 0);
        check.due(x, "led(0)", x.led(0), 2, 0);
        check.due(x, "led(1)", x.led(1), 2, 0);
        for (int k : new int[] {2, 5, FAR[3]}) {
            check.refused(x, "led(" + k + ")", x.led(k), 6);
        }
        for (int k : new int[] {-1, FAR[0]}) {
            check.refused(x, "led(" + k + ")", x.led(k), 1);
        }
        for (int goal : new int[] {-1, 3, FAR[0], FAR[3]}) {
            check.refused(x, "lead to line " + goal, x.lead(0, 0, 1, goal), 1);
            check.refused(x, "ahead of a missing tray", x.lead(0, 1, 1, goal), 1);
        }
    }

    /** face(), and what ring() tells of it; -1 where there is no ring. */
    private void face(AskBack x, int[] call, int done, int ahead, int in) {
        String name = "face" + java.util.Arrays.toString(call);
        check.due(x, name, x.face(call[0], call[1], call[2], call[3]), done, 0);
        check.due(x, "ring(0) of " + name, x.ring(0), ahead, ahead < 0 ? 6 : 0);
        check.due(x, "ring(1) of " + name, x.ring(1), in, in < 0 ? 6 : 0);
    }

    private void faces() {
        holds("FACE TO FACE: both FRESH; the first one says to a LINE, the other one to what that said, and so on by turns, at"
                + " most so many times (1 to 200):");
        AskBack x = with("key s rank 1; when s say a; key b rank 1; when b say c; key d rank 1; when d say e; none z or y;", "s",
                "a");
        given(x, 1, "key a rank 1; when a say b; key c rank 1; when c say d; none w;");
        x.say(0, 1);
        x.say(1, 0);
        // a b c d e w, then z w y w: behind that all is as it was when z was said
        face(x, new int[] {0, 1, 0, 200}, 10, 6, 4);
        face(x, new int[] {0, 1, 0, 10}, 10, 6, 4);
        face(x, new int[] {0, 1, 0, 9}, 9, -1, -1);
        face(x, new int[] {0, 1, 0, 1}, 1, -1, -1);
        // by the other way round: w z w y
        face(x, new int[] {1, 0, 0, 200}, 5, 1, 4);
        check.says(x, 0, 1, "y");
        // one with itself, as two, whose states are not one
        face(x, new int[] {0, 0, 1, 200}, 5, 1, 4);
        holds("`int face(int one, int other, int line, int most)`: FACE TO FACE (perhaps one with itself, as two): how many"
                + " sayings were done ahead of the RING's end, or at most (1).");
        face(x, new int[] {2, 2, 0, 200}, 3, 1, 2);
        face(x, new int[] {2, 2, 0, 3}, 3, 1, 2);
        face(x, new int[] {2, 2, 0, 2}, 2, -1, -1);
        face(x, new int[] {1, 1, 0, 200}, 3, 1, 2);
    }

    private void ringsOfLines() {
        holds("a RING, when one is to say to the same LINE in the same state of both (turns of all ANSWERS, all that is"
                + " REMEMBERED) as it was earlier: how many sayings ahead of it, how many in it.");
        String chain = joined(7, i -> "key " + letter(i) + " rank 1;when " + letter(i) + " say " + letter((i + 1) % 7) + ";");
        AskBack x = with(chain, "a", "", "g", "a a");
        // seven lines go round, but the same one is to say to the same line behind fourteen
        face(x, new int[] {0, 0, 0, 200}, 14, 0, 14);
        face(x, new int[] {0, 0, 2, 14}, 14, 0, 14);
        face(x, new int[] {0, 0, 2, 13}, 13, -1, -1);
        face(x, new int[] {0, 0, 1, 2}, 2, 0, 2);
        face(x, new int[] {0, 0, 1, 1}, 1, -1, -1);
        face(x, new int[] {0, 0, 3, 200}, 3, 1, 2);
        // lines alike but for their last word, or but for their size
        AskBack y = with("key a rank 1; when a b say a c; when a c say a; when a say a b;", "a b");
        face(y, new int[] {0, 0, 0, 200}, 6, 0, 6);
        given(y, 0, "key a rank 1; when a b say a a; when a a say a b c; when * say a b;");
        face(y, new int[] {0, 0, 0, 200}, 6, 0, 6);
    }

    private void ringsOfTurns() {
        AskBack x = with("none a or a or b;", "q", "a");
        given(x, 1, "none c;");
        given(x, 2, "key a rank 1; when * say c or c; key b rank 1; when * say c or c or c or c;");
        // of the first one's turns, of the other one's, of a rule's, of none's
        face(x, new int[] {0, 1, 0, 200}, 7, 1, 6);
        face(x, new int[] {1, 0, 0, 200}, 7, 1, 6);
        face(x, new int[] {1, 0, 1, 200}, 7, 1, 6);
        given(x, 1, "key c rank 1; when * say a;");
        face(x, new int[] {2, 1, 1, 200}, 4, 0, 4);
        face(x, new int[] {1, 2, 1, 200}, 3, 1, 2);
        given(x, 1, "none b or b or b;");
        face(x, new int[] {2, 1, 1, 200}, 25, 1, 24);
    }

    private void ringsOfMemory() {
        // what the other one remembers grows to six
        AskBack x = with("none a;", "a");
        given(x, 1, "key a rank 1; keep a say b; when * say a;");
        face(x, new int[] {0, 1, 0, 200}, 14, 12, 2);
        face(x, new int[] {1, 0, 0, 200}, 13, 11, 2);
        // the first of six remembered is the last that is unlike
        AskBack y = with("key a rank 1; keep a ? say 1; when a * say q;", "a z");
        given(y, 1, "none a x;");
        face(y, new int[] {0, 1, 0, 200}, 15, 13, 2);
        // the same words one behind the other, but not in the same lines
        AskBack z = with("key k rank 1; keep k * m * say 1; keep k * m * say 2; when k * say q;", "k a b m c");
        given(z, 1, "none k a m b c;");
        face(z, new int[] {0, 1, 0, 200}, 9, 7, 2);
        // the same line remembered, but by the other one
        AskBack w = with("key k rank 1; keep k ? say 1; when k ? say q; key s rank 1; when s say q;", "k x");
        given(w, 1, "key q rank 1; when q say r; key x rank 1; keep x say x; when x say s;");
        face(w, new int[] {0, 1, 0, 200}, 11, 9, 2);
        // fresh: nothing is remembered from the meeting ahead
        face(y, new int[] {0, 1, 0, 5}, 5, -1, -1);
        face(y, new int[] {0, 1, 0, 200}, 15, 13, 2);
        face(y, new int[] {1, 0, 0, 200}, 14, 12, 2);
    }

    /** Both remember six lines of twelve words and say twelve words each time; turns of 64 against turns of 3: 384 sayings. */
    private void mostSayings() {
        String keeps = "keep a * say 1 a;".repeat(6);
        AskBack x = with("key a rank 1;" + keeps + "when * say go u or 1 or 1 or 1; key u rank 0; when * say go v or 1 or 1 or 1;"
                + " key v rank 0; when * say 1 or 1 or 1 or 1;", "a b c d e f g h i j k l");
        given(x, 1, "key a rank 1;" + keeps + "when * say 1 or 1 or 1;");
        face(x, new int[] {0, 1, 0, 200}, 200, -1, -1);
        face(x, new int[] {0, 1, 0, 199}, 199, -1, -1);
        face(x, new int[] {1, 0, 0, 200}, 200, -1, -1);
        face(x, new int[] {1, 1, 0, 200}, 8, 2, 6);
        // eight sayings ahead, then turns of 32 against turns of 3: the ring ends with the 200th saying
        String chain = joined(7, i -> "key " + letter(18 + i) + " rank 1; when * say " + letter(19 + i) + ";");
        AskBack y = with(chain + "none go p or a or b or c; key p rank 1; when * say go q or d or e or f; key q rank 1;"
                + " when * say g or h;", "s");
        given(y, 1, chain + "none k or l or m;");
        face(y, new int[] {0, 1, 0, 200}, 200, 8, 192);
        face(y, new int[] {0, 1, 0, 199}, 199, -1, -1);
    }

    private void faceCalls() {
        holds("`int ring(int what)`: Of face() latest with STATUS 0, what 0: sayings ahead of the RING, 1: in it (1; 6: no RING).");
        AskBack x = with("", "a", "b");
        check.refused(x, "ahead of any", x.ring(0), 6);
        check.refused(x, "ahead of any", x.ring(1), 6);
        for (int what : new int[] {-1, 2, FAR[0], FAR[3]}) {
            check.refused(x, "ring(" + what + ") ahead of any", x.ring(what), 1);
        }
        for (int most : new int[] {0, -1, 201, FAR[0], FAR[3]}) {
            check.refused(x, "at most " + most, x.face(0, 1, 0, most), 1);
        }
        for (int line : new int[] {-1, 2, FAR[0], FAR[3]}) {
            check.refused(x, "line " + line, x.face(0, 1, line, 9), 1);
        }
        check.refused(x, "a refused face() has no ring", x.ring(0), 6);
        face(x, new int[] {0, 1, 0, 200}, 3, 1, 2);
        check.refused(x, "no script", x.face(0, 3, 0, 9), 1);
        check.due(x, "the ring stays", x.ring(1), 2, 0);
        for (int what : new int[] {-1, 2, FAR[0], FAR[3]}) {
            check.refused(x, "ring(" + what + ")", x.ring(what), 1);
        }
        face(x, new int[] {0, 1, 0, 2}, 2, -1, -1);
        check.refused(x, "ring(2) without a ring", x.ring(2), 1);
    }

    private void couples() {
        holds("BROKEN couples, at most 12: two WORDS, one behind the other, that are no speech.");
        AskBack x = with("key a rank 1; when a * say 1;", "a b c", "a c b", "a b x c", "a b", "a x y b c", "a m n", "a");
        for (int i = 0; i < 11; i++) {
            check.due(x, "couple " + i, x.broken(Check.word("q"), 1 + i), i + 1, 0);
        }
        check.due(x, "the 12th", x.broken(Check.word("b"), Check.word("c")), 12, 0);
        check.refused(x, "a 13th", x.broken(Check.word("m"), Check.word("n")), 4);
        boolean[] broken = {true, false, false, false, true, false, false};
        for (int line = 0; line < broken.length; line++) {
            Check.fill(x, 0, line);
            check.due(x, "broke of line " + line, x.broke(0, 0, 1), broken[line] ? 0 : -1, 0);
        }
        // neither the last of twelve words nor the last of one has a word behind it, whatever was said ahead
        AskBack z = with("key a rank 1; when a say x n; key b rank 1; when b say m; key c rank 1; when c * say 1 m;", "a", "b",
                "c x x x x x x x x x x x");
        z.broken(Check.word("m"), Check.word("n"));
        Check.fill(z, 0, 0, 1, 2);
        check.due(z, "broke", z.broke(0, 0, 3), -1, 0);
        z.talk(0, 0, 3);
        check.due(z, "claim(2)", z.claim(2), -1, 0);
        holds("`int broken(long a, long b)`: A BROKEN couple more, of two WORDS as numbers: how many there are (1; 4).");
        for (long wrong : new long[] {0, -1, 27, Long.MIN_VALUE, Long.MAX_VALUE}) {
            check.refused(x, "no word comes first", x.broken(wrong, 1), 1);
            check.refused(x, "no word comes first", x.broken(1, wrong), 1);
        }
        check.due("many(1)", x.many(1), 12);
        AskBack y = new AskBack();
        check.due(y, "a couple", y.broken(1, 1), 1, 0);
        check.refused(y, "no couple", y.broken(1, 0), 1);
        check.refused(y, "no couple", y.broken(0, 1), 1);
        check.due(y, "the same couple again", y.broken(1, 1), 2, 0);
        check.due("many(1)", y.many(1), 2);
    }

    private void broke() {
        holds("BROKE: the first of so many LINES (a TRAY, 1 to 16) to which the SCRIPT, FRESH each time, says something with a"
                + " BROKEN couple.");
        AskBack x = with("key a rank 1; keep a * say 1 z; when a * say 1 or m n; when * a say m m;", "a b", "a m n", "q", "x a");
        x.broken(Check.word("m"), Check.word("n"));
        x.say(0, 0);
        // fresh each time: the second answer's turn never comes, and nothing is remembered from line to line
        Check.fill(x, 0, 0, 0, 2, 3, 2, 0, 0, 0, 0, 0, 0, 0, 0, 0, 0, 1, 1);
        check.due(x, "the last of sixteen", x.broke(0, 0, 16), 15, 0);
        check.due(x, "none of fifteen", x.broke(0, 0, 15), -1, 0);
        x.write(0, 0, 1);
        check.due(x, "the first of two", x.broke(0, 0, 16), 0, 0);
        check.due(x, "the first of one", x.broke(0, 0, 1), 0, 0);
        check.due("the script's own state stays", x.rule(0, 1, 3), 1);
        given(x, 1, "key a rank 1; keep * say m n; when * a say so; none n m;");
        Check.fill(x, 0, 3, 2, 3, 0);
        check.due(x, "what is remembered by the line itself alone", x.broke(1, 0, 3), -1, 0);
        check.due(x, "and said at once", x.broke(1, 0, 4), 3, 0);
        holds("`int broke(int script, int tray, int many)`: BROKE: the place in the TRAY; STATUS 0 also with NONE: none is");
        AskBack y = with("none m n;", "q", "r");
        Check.fill(y, 0, 1, 0);
        check.due(y, "without couples", y.broke(0, 0, 2), -1, 0);
        y.broken(Check.word("m"), Check.word("n"));
        check.due(y, "a place, not a line", y.broke(0, 0, 2), 0, 0);
        check.due(y, "an empty script", y.broke(1, 0, 2), -1, 0);
    }

    private void mend(AskBack x, int many, int... want) {
        for (int what = 0; what < 4; what++) {
            check.due(x, "mend " + what + " of " + java.util.Arrays.toString(want), x.mend(0, 0, many, what), want[what], want[what] < 0 ? 6 : 0);
        }
    }

    private void mends() {
        holds("MENDS: RULES, and then turns, each left out alone (a RULE as if it never FITS; a turn: the WORD stays), with"
                + " which none is BROKE: how many of either, the first.");
        AskBack x = with("turn n m; turn i you; turn o n; key a rank 2; when a m * say 1; when a ? o say 1 n; when a ? * say 1 2;"
                + " when b say b; key m rank 1; when * say so;", "a i o", "q", "a m o");
        x.broken(Check.word("you"), Check.word("n"));
        Check.fill(x, 0, 1, 0, 2);
        // rule 1 says "you n", and without it rule 2 does; the second turn alone mends
        mend(x, 3, 0, -1, 1, 1);
        given(x, 0, "turn n m; turn i you; turn o n; key a rank 2; when a ? ? say 1 2; when a ? * say so;");
        // without the first rule the second one says so; without a turn: "i n", "you o"
        mend(x, 3, 1, 0, 2, 1);
        mend(x, 2, 1, 0, 2, 1);
        check.refused(x, "none is broke", x.mend(0, 0, 1, 0), 6);
        given(x, 0, "none you n; key a rank 1; when a * say so;");
        mend(x, 1, 0, -1, 0, -1);
        check.due("all is there again", x.broke(0, 0, 3), 0);
        // what is left out fits nothing: its keep keeps nothing, and no go leads to it
        given(x, 0, "key a rank 1; keep a * say you n; when b say b; when a i o say go c; key c rank 0; when z say z;"
                + " when * say never; when * say you n;");
        Check.fill(x, 0, 0);
        check.due("it says never", x.broke(0, 0, 1), -1);
        x.broken(Check.word("never"), Check.word("you"));
        given(x, 0, "key a rank 1; keep a * say you n; when a i o say go c; key c rank 0; when z say z;");
        mend(x, 1, 1, 0, 0, -1);
        given(x, 0, "key a rank 1; when a i o say go c; key c rank 0; when * say you n; when * say so;");
        mend(x, 1, 2, 0, 0, -1);
    }

    /** Each of 24 rules and of 12 turns may be the one that mends; one that is left out is there again for the next. */
    private void mendsOfAll() {
        String others = joined(11, i -> "turn " + letter(i) + letter(i) + " b;");
        String rules = "when z say z;".repeat(23);
        AskBack x = with(others + "turn x y; key a rank 1;" + rules + "when a * say 1;", "a x y", "a aa");
        x.broken(Check.word("y"), Check.word("y"));
        Check.fill(x, 0, 0, 1);
        mend(x, 2, 1, 23, 1, 11);
        given(x, 0, "turn x y;" + others + "key a rank 1; when a * say 1;" + rules);
        mend(x, 2, 1, 0, 1, 0);
        given(x, 0, "turn x y; turn w y; key a rank 1; when a ? y say 1 y; when a ? y say 1 y; when a * say y y;");
        mend(x, 1, 0, -1, 1, 0);
        check.due("the turn is there again", x.turned(0, Check.word("x")), Check.word("y"));
        says(x, 0, "y y", 0, 0, 0, 0, 0);
        // both of two that break it must be mended
        given(x, 0, "turn x y; turn w y; key a rank 1; when a ? y say 1 y; when a ? say y 1;");
        heard(x, "a w");
        Check.fill(x, 0, 0, 2);
        mend(x, 2, 0, -1, 0, -1);
        mend(x, 1, 1, 0, 1, 0);
    }

    private void mendCalls() {
        holds("`int mend(int script, int tray, int many, int what)`: MENDS, what 0: how many RULES, 1: the first, 2: how many turns,"
                + " 3: the first (from 0) (as broke(); 6: none is BROKE; for 1, 3: none).");
        AskBack x = with("none m n;", "q");
        x.tray(0, 0, 1);
        for (int what = 0; what < 4; what++) {
            check.refused(x, "none is broke", x.mend(0, 0, 1, what), 6);
        }
        x.broken(Check.word("m"), Check.word("n"));
        mend(x, 1, 0, -1, 0, -1);
        for (int what : new int[] {-1, 4, FAR[0], FAR[3]}) {
            check.refused(x, "what " + what, x.mend(0, 0, 1, what), 1);
            check.refused(x, "what " + what + " ahead of a missing tray", x.mend(0, 1, 1, what), 1);
        }
        for (int what = 0; what < 4; what++) {
            check.refused(x, "a missing tray", x.mend(0, 1, 16, what), 2);
            check.refused(x, "too few", x.mend(0, 0, 2, what), 3);
            check.refused(x, "seventeen", x.mend(0, 0, 17, what), 1);
        }
        x.write(0, 0, 1);
        for (int what = 0; what < 4; what++) {
            check.refused(x, "no line", x.mend(0, 0, 1, what), 1);
        }
    }

    private void least(AskBack x, int many, int size, int set) {
        check.due(x, "least", x.least(0, 0, many), size, 0);
        check.due(x, "leastSet()", x.leastSet(), set, 0);
    }

    private void leasts() {
        holds("LEAST: the fewest RULES of a SCRIPT of at most 12 RULES with which (the others never FIT) a FRESH one says just the"
                + " same WORDS to so many LINES (a TRAY, 1 to 15) one behind the other as with all;");
        AskBack x = with("key a rank 1; keep a * say 1; when a b say so; when a * say so or z; when b say n; key b rank 2; when b say n;"
                + " none n or z;", "a b", "a", "q", "b");
        Check.fill(x, 0, 0, 1, 2, 2, 2, 3, 0, 1, 2, 2, 2, 2, 2, 2, 2);
        least(x, 1, 1, 2);
        // rule 2 alone would say "so" and then "z"
        least(x, 2, 2, 6);
        least(x, 3, 3, 7);
        // the line that has no words is remembered, too
        least(x, 4, 3, 7);
        x.say(0, 1);
        x.talk(0, 0, 2);
        least(x, 1, 1, 2);
        check.due("the script's own state stays", x.rule(0, 2, 3), 1);
        Check.fill(x, 0, 2, 3);
        // none's answers come by turns: without rule 4 the second line would get its first answer all the same
        least(x, 1, 0, 0);
        least(x, 2, 1, 16);
        Check.fill(x, 0, 3, 2);
        least(x, 1, 0, 0);
        least(x, 2, 1, 16);
        given(x, 0, "");
        least(x, 2, 0, 0);
        given(x, 0, "key b rank 1; when b say go c; key c rank 0; when * say n; none n;");
        least(x, 2, 0, 0);
        given(x, 0, "key b rank 1; when b say go c; key c rank 0; when * say z; none n;");
        least(x, 2, 2, 3);
    }

    private void leastOfTwelve() {
        String rules = joined(12, i -> "when a " + letter(i) + " say " + letter(i) + ";");
        AskBack x = with("key a rank 1;" + rules);
        x.tray(0, 0, 15);
        for (int i = 0; i < 12; i++) {
            heard(x, "a " + letter(i));
            x.write(0, i, i);
        }
        least(x, 15, 12, 4095);
        least(x, 12, 12, 4095);
        least(x, 11, 11, 2047);
        least(x, 1, 1, 1);
        for (String more : new String[] {"when z say z;", "keep z say z;"}) {
            check.due("thirteen rules", Check.script(x, 1, "key a rank 1;" + rules + more), 13);
            check.refused(x, "too many rules", x.least(1, 0, 15), 4);
            check.refused(x, "no such many comes first", x.least(1, 0, 16), 1);
            check.refused(x, "no such tray comes first", x.least(1, 4, 1), 1);
            check.refused(x, "a missing tray comes behind", x.least(1, 1, 1), 4);
            check.refused(x, "too few comes behind", x.least(1, 0, 15), 4);
        }
        x.write(0, 0, 99);
        check.refused(x, "no line comes behind", x.least(1, 0, 1), 4);
        check.due("the set stays", x.leastSet(), 1);
    }

    private void leastSets() {
        holds("of several the least set (1 for RULE 0 ..).");
        AskBack x = with("key a rank 1; when a b say no; when a say so; when * say so; when ? say so; key b rank 1; when * say n;"
                + " none n;", "a", "b", "c a", "z");
        Check.fill(x, 0, 0, 2);
        least(x, 1, 1, 2);
        least(x, 2, 1, 4);
        Check.fill(x, 0, 1, 3);
        least(x, 2, 0, 0);
        // rules 0 and 1 would do, and rules 1 and 2: 3 is less than 6
        given(x, 0, "key a rank 1; when * c a say p; when a say q; key c rank 1; when * say p; key b rank 1; when z say z;"
                + " none n;");
        Check.fill(x, 0, 0, 2);
        least(x, 2, 2, 3);
        holds("`int leastSet()`: The set of LEAST, by least() latest with STATUS 0 (6).");
        check.refused(x, "no such script", x.least(3, 0, 1), 1);
        check.due(x, "the set stays", x.leastSet(), 3, 0);
        AskBack y = with("none n;", "a");
        check.refused(y, "ahead of any", y.leastSet(), 6);
        y.least(0, 0, 1);
        check.refused(y, "behind a refused one", y.leastSet(), 6);
        y.tray(0, 0, 1);
        least(y, 1, 0, 0);
    }

    private void orders() {
        holds("ORDERS: of all orders of a SCRIPT's KEYS (at most 6), as if these had ranks, all unlike, those by which it, FRESH,"
                + " says just what was said in the latest TALK to its LINES (the KEY that stands first has the greatest rank): how"
                + " many; in how many one KEY stands ahead of another one.");
        AskBack x = with("key a rank 1; when * say ka or la; key b rank 2; when * say kb or lb; key c rank 3; when z say z;", "a b",
                "b a", "c b", "q");
        Check.fill(x, 0, 0, 1, 0, 2, 3);
        x.talk(0, 0, 2);
        spoke(x, "kb", "lb");
        check.due(x, "b ahead of a, fresh for each", x.orders(0), 3, 0);
        table(x, 3, 0, 0, 1, 3, 0, 2, 2, 1, 0);
        x.talk(0, 0, 5);
        check.due(x, "b ahead of a", x.orders(0), 3, 0);
        for (int many : new int[] {1, 3}) {
            x.talk(0, 0, many);
            check.due(x, "fresh for each, though its turns are not as they were", x.orders(0), 3, 0);
        }
        x.talk(0, 0, 2);
        x.orders(0);
        // like ranks: now the one, now the other, which no order does
        given(x, 1, "key a rank 1; when * say ka; key b rank 1; when * say kb;");
        x.talk(1, 0, 2);
        check.due(x, "none", x.orders(1), 0, 0);
        table(x, 2, 0, 0, 0, 0);
        x.talk(1, 0, 1);
        check.due(x, "a ahead of b", x.orders(1), 1, 0);
        table(x, 2, 0, 1, 0, 0);
        // the words alone are asked for, not how they came
        given(x, 2, "none ka;");
        check.due(x, "of no keys there is one order", x.orders(2), 1, 0);
        given(x, 2, "none ka or la; key q rank 1; when q say q;");
        check.due(x, "of one key", x.orders(2), 1, 0);
        x.talk(1, 0, 3);
        check.due(x, "unlike", x.orders(2), 0, 0);
    }

    private void table(AskBack x, int keys, int... want) {
        for (int a = 0; a < keys; a++) {
            for (int b = 0; b < keys; b++) {
                int due = a == b ? -1 : want[a * keys + b];
                check.due(x, "ahead(" + a + ", " + b + ")", x.ahead(a, b), due, a == b ? 1 : 0);
            }
        }
    }

    private void ordersOfTalks() {
        holds("`int orders(int script)`: ORDERS: how many (1; 4; 6: there was no TALK).");
        String six = joined(6, i -> "key " + letter(i) + " rank 1;");
        AskBack x = with(six + "key g rank 1;", "a");
        check.refused(x, "too many keys, ahead of no talk", x.orders(0), 4);
        check.refused(x, "no talk", x.orders(1), 6);
        for (int script : new int[] {-1, 3, FAR[0], FAR[3]}) {
            check.refused(x, "orders(" + script + ")", x.orders(script), 1);
        }
        x.tray(0, 0, 15);
        x.talk(1, 0, 0);
        check.refused(x, "a refused talk", x.orders(1), 6);
        x.talk(1, 0, 15);
        check.refused(x, "seven keys", x.orders(0), 4);
        check.due(x, "no keys", x.orders(1), 1, 0);
        given(x, 0, six);
        check.due(x, "six keys", x.orders(0), 720, 0);
        check.due("ahead(0, 5)", x.ahead(0, 5), 360);
        check.due("the script's own state stays", x.count(0, 3), 0);
        // the lines of the talk, though they are gone
        AskBack y = new AskBack();
        y.mark();
        heard(y, "b a");
        given(y, 0, "key a rank 2; when * say ka; key b rank 1; when * say kb;");
        y.tray(0, 0, 1);
        y.talk(0, 0, 1);
        y.back();
        check.refused(y, "its line is gone", y.talk(0, 0, 1), 1);
        given(y, 0, "key a rank 1; when * say ka; key b rank 2; when * say kb;");
        check.due(y, "a ahead of b, whatever the ranks are", y.orders(0), 1, 0);
        table(y, 2, 0, 1, 0, 0);
    }

    private void ordersOfSix() {
        String six = joined(6, i -> "key " + letter(i) + " rank " + (9 - i) + ";when * say k" + letter(i) + ";");
        AskBack x = with(six, "a b", "b c", "c d", "d e", "e f", "f e d c b a");
        Check.fill(x, 0, 0, 1, 2, 3, 4, 5);
        x.talk(0, 0, 5);
        check.due(x, "one order alone", x.orders(0), 1, 0);
        table(x, 6, joinedTable());
        x.talk(0, 0, 1);
        check.due(x, "half of all", x.orders(0), 360, 0);
        check.due("ahead(0, 1)", x.ahead(0, 1), 360);
        check.due("ahead(1, 0)", x.ahead(1, 0), 0);
        check.due("ahead(4, 5)", x.ahead(4, 5), 180);
        check.due("ahead(0, 2)", x.ahead(0, 2), 240);
        Check.fill(x, 0, 5);
        x.talk(0, 0, 1);
        check.due(x, "a first of all", x.orders(0), 120, 0);
        for (int b = 1; b < 6; b++) {
            check.due("ahead(0, b)", x.ahead(0, b), 120);
            check.due("ahead(b, 0)", x.ahead(b, 0), 0);
        }
        // a key that is not in the line, though it was in one that was heard ahead, changes nothing
        AskBack z = with("key a rank 1; when * say ka; key b rank 2; when * say kb;", "a b", "a");
        Check.fill(z, 0, 0, 1);
        z.talk(0, 0, 1);
        check.due(z, "b ahead of a", z.orders(0), 1, 0);
        Check.fill(z, 0, 1, 0);
        z.talk(0, 0, 1);
        check.due(z, "both orders", z.orders(0), 2, 0);
        // the first key's keeps alone
        AskBack y = with(joined(3, i -> "key " + letter(i) + " rank " + i + "; keep * say k" + letter(i) + ";"), "a b c", "a b");
        Check.fill(y, 0, 0, 1);
        y.talk(0, 0, 2);
        spoke(y, "kc", "kb");
        check.due(y, "c, b, a", y.orders(0), 1, 0);
        table(y, 3, 0, 0, 0, 1, 0, 0, 1, 1, 0);
    }

    private static int[] joinedTable() {
        int[] all = new int[36];
        for (int i = 0; i < 36; i++) {
            all[i] = i / 6 < i % 6 ? 1 : 0;
        }
        return all;
    }

    private void aheads() {
        holds("`int ahead(int a, int b)`: In how many of ORDERS one KEY stands ahead of another one, by orders() latest with STATUS 0"
                + " (6: there was none, asked first; 1: KEYS that it had not, one and the same).");
        AskBack x = with("key a rank 1; key b rank 1; key c rank 1;", "z");
        for (int wrong : new int[] {-1, 0, 1, 6, FAR[0], FAR[3]}) {
            check.refused(x, "ahead of any", x.ahead(wrong, 0), 6);
            check.refused(x, "ahead of any", x.ahead(0, wrong), 6);
        }
        x.orders(0);
        check.refused(x, "behind a refused one", x.ahead(0, 1), 6);
        x.tray(0, 0, 1);
        x.talk(0, 0, 1);
        x.orders(0);
        table(x, 3, 0, 3, 3, 3, 0, 3, 3, 3, 0);
        for (int wrong : new int[] {-1, 3, 5, 6, FAR[0], FAR[3]}) {
            check.refused(x, "ahead(" + wrong + ", 0)", x.ahead(wrong, 0), 1);
            check.refused(x, "ahead(0, " + wrong + ")", x.ahead(0, wrong), 1);
            check.refused(x, "one and the same", x.ahead(wrong, wrong), 1);
        }
        x.orders(3);
        check.due(x, "by the latest with 0", x.ahead(2, 0), 3, 0);
        given(x, 0, "key a rank 1; key b rank 1;");
        check.due(x, "the script is another one", x.ahead(2, 0), 3, 0);
        x.orders(0);
        check.refused(x, "now it had two", x.ahead(2, 0), 1);
        check.due(x, "ahead(1, 0)", x.ahead(1, 0), 1, 0);
        x.orders(1);
        check.refused(x, "now it had none", x.ahead(0, 1), 1);
    }
}
