/** Promises 9 to 16: the tape, lines, scripts, their faults, and what is told of them. */
public final class TextsTest {
    private static final Check CHECK = new Check();

    public static void main(String[] args) {
        tape();
        lines();
        lineFaults();
        tooManyLines();
        scriptCalls();
        tokens();
        names();
        semantics();
        limits();
        goes();
        counts();
        CHECK.end();
    }

    /** Promise 9. */
    private static void tape() {
        AskBack x = new AskBack();
        for (int i = 1; i <= 30; i++) {
            CHECK.due("feed " + i, x.feed(0x20202020, 0x20202020, 0x20202020, 0x20202020, 0x20202020), 20 * i);
        }
        CHECK.due("feed beyond 600", x.feed(0, 0, 0, 0, 0), -1);
        CHECK.due("status() behind feed()", x.status(), 0);
        CHECK.due(x, "script(0, 600)", x.script(0, 600), 0, 0);
        CHECK.due("the tape is empty then", x.feed(0x61626364, 0x65666768, 0x20696a6b, 0, 0), 20);
        CHECK.due(x, "line(12)", x.line(12), 0, 0);
        CHECK.due("the highest byte comes first", x.word(0, 0), Check.word("abcdefgh"));
        CHECK.due("and so on", x.word(0, 1), Check.word("ijk"));
    }

    /** Promises 10 and 14. */
    private static void lines() {
        AskBack x = new AskBack();
        CHECK.due(x, "an empty line", x.line(0), 0, 0);
        CHECK.due(x, "its words", x.word(0, -1), 0, 0);
        CHECK.refused(x, "its first word", x.word(0, 0), 6);
        CHECK.due(x, "a line", Check.line(x, "\n  a\nzz  zzzzzzzz \n"), 1, 0);
        CHECK.due(x, "its words", x.word(1, -1), 3, 0);
        CHECK.due(x, "a", x.word(1, 0), 1, 0);
        CHECK.due(x, "zz", x.word(1, 1), 26 * 32 + 26, 0);
        CHECK.due(x, "zzzzzzzz", x.word(1, 2), Check.word("zzzzzzzz"), 0);
        CHECK.refused(x, "its fourth word", x.word(1, 3), 6);
        CHECK.refused(x, "a far word", x.word(1, Integer.MAX_VALUE), 6);
        CHECK.refused(x, "word -2", x.word(1, -2), 1);
        CHECK.refused(x, "no such line", x.word(2, 0), 1);
        CHECK.refused(x, "no such line", x.word(-1, -1), 1);
        Check.feed(x, "a b");
        CHECK.refused(x, "line(-1)", x.line(-1), 1);
        CHECK.refused(x, "line(21) of 20", x.line(21), 1);
        CHECK.due("the tape stays then", x.feed(0, 0, 0, 0, 0), 40);
        CHECK.due(x, "line(3)", x.line(3), 2, 0);
        Check.feed(x, "a".concat(" ".repeat(139)));
        CHECK.refused(x, "line(121)", x.line(121), 1);
        CHECK.due(x, "line(120)", x.line(120), 3, 0);
        CHECK.due(x, "twelve words", Check.line(x, "a b c d e f g h i j k l"), 4, 0);
        CHECK.due(x, "many(0)", x.many(0), 5, 0);
        CHECK.refused(x, "many(3)", x.many(3), 1);
        CHECK.refused(x, "many(-1)", x.many(-1), 1);
    }

    private static void badLine(String text, int kind, int place) {
        AskBack x = new AskBack();
        CHECK.refused(x, "line '" + text + "'", Check.line(x, text), 9);
        CHECK.due("fault(0) of '" + text + "'", x.fault(0), kind);
        CHECK.due("fault(1) of '" + text + "'", x.fault(1), place);
        CHECK.due("the tape is empty then", x.feed(0, 0, 0, 0, 0), 20);
        CHECK.due("no line more", x.many(0), 0);
    }

    /** Promises 10 and 12. */
    private static void lineFaults() {
        badLine("a B", 1, 2);
        badLine("a 1", 1, 2);
        badLine("a 123 abcdefghi", 1, 2);
        badLine("\ta", 1, 0);
        badLine("ab\u00e9", 1, 2);
        badLine("a \0", 1, 2);
        badLine("a;b", 1, 1);
        badLine("ab abcdefghi", 2, 3);
        badLine("abcdefghi!", 2, 0);
        badLine("ab!abcdefghi", 1, 2);
        badLine("a b c d e f g h i j k l m!", 3, 24);
        badLine("a b c d e f g h i j k l abcdefghi", 2, 24);
        badLine("a b c d e f g h i j k ! m n", 1, 22);
    }

    /** Promises 10 and 12: the 17th line. */
    private static void tooManyLines() {
        AskBack x = new AskBack();
        for (int i = 0; i < 16; i++) {
            CHECK.due(x, "line " + i, Check.line(x, "a"), i, 0);
        }
        CHECK.refused(x, "a fault comes first", Check.line(x, "a!"), 9);
        CHECK.due("its fault", x.fault(0), 1);
        CHECK.refused(x, "a 17th line", Check.line(x, "a"), 4);
        CHECK.due("has no fault", x.fault(0), 0);
        CHECK.due("has no fault's place", x.fault(1), -1);
        CHECK.due("the tape stays", x.feed(0, 0, 0, 0, 0), 40);
        CHECK.refused(x, "line(-1)", x.line(-1), 1);
        CHECK.due("a number that can't be changes no fault", x.fault(0), 0);
        CHECK.due("many(0)", x.many(0), 16);
    }

    /** Promises 11 and 12. */
    private static void scriptCalls() {
        AskBack x = new AskBack();
        Check.feed(x, "key a rank 1; when a say b;");
        CHECK.refused(x, "script(3, 27)", x.script(3, 27), 1);
        CHECK.refused(x, "script(-1, 27)", x.script(-1, 27), 1);
        CHECK.refused(x, "script(0, -1)", x.script(0, -1), 1);
        CHECK.refused(x, "script(0, 41)", x.script(0, 41), 1);
        CHECK.due("no fault told ahead of any", x.fault(0), -1);
        CHECK.due(x, "script(0, 27)", x.script(0, 27), 1, 0);
        CHECK.due("fault(0)", x.fault(0), 0);
        CHECK.due("fault(1)", x.fault(1), -1);
        CHECK.due("fault(2)", x.fault(2), -1);
        CHECK.due("fault(-1)", x.fault(-1), -1);
        CHECK.due("the tape is empty", x.feed(0, 0, 0, 0, 0), 20);
        CHECK.refused(x, "a fault", x.script(0, 1), 9);
        CHECK.due("the tape is empty", x.feed(0, 0, 0, 0, 0), 20);
        CHECK.due("the old one stays", x.count(0, 1), 1);
        CHECK.due(x, "an empty script", x.script(0, 0), 0, 0);
        CHECK.due("the old one is gone", x.count(0, 0), 0);
    }

    private static void bad(String text, int kind, int place) {
        AskBack x = new AskBack();
        Check.script(x, 1, "key old rank 7; when old say z or x; none y;");
        Check.line(x, "old");
        x.say(1, 0);
        CHECK.refused(x, "script '" + text + "'", Check.script(x, 1, text), 9);
        CHECK.due("fault(0) of '" + text + "'", x.fault(0), kind);
        CHECK.due("fault(1) of '" + text + "'", x.fault(1), place);
        CHECK.due("the old one stays in its state", x.rule(1, 0, 3), 1);
    }

    private static void good(String text, int rules) {
        AskBack x = new AskBack();
        CHECK.due(x, "script '" + text + "'", Check.script(x, 2, text), rules, 0);
        CHECK.due("fault(0) of '" + text + "'", x.fault(0), 0);
        CHECK.due("fault(1) of '" + text + "'", x.fault(1), -1);
    }

    /** Promise 11: tokens, and where they can stand. */
    private static void tokens() {
        good("", 0);
        good(" \n ", 0);
        good("turn a b;key a rank 1;when*a?say 1a2;none a;", 1);
        good("none a or b;\nkey\na\nrank\n07\n;\n", 0);
        good("key a rank 1;keep * say a1a1a1a1a1;", 1);
        bad("key a rank 1;\t", 1, 13);
        bad("key A rank 1;", 1, 4);
        bad("key a rank 123;", 1, 11);
        bad("key a rank 1; when 123 say a;", 1, 19);
        bad("123", 1, 0);
        bad("key a rank \u00e9;", 1, 11);
        bad("key a rank", 2, 10);
        bad("key a rank  \n", 2, 13);
        bad("key a 1;", 2, 6);
        bad("key a rank b;", 2, 11);
        bad("key a rank 1 2;", 2, 13);
        bad("key a rank 1", 2, 12);
        bad("key 1 rank 1;", 2, 4);
        bad(";", 2, 0);
        bad("*".repeat(600), 2, 0);
        bad("key a rank 1;".concat("\n".repeat(586)).concat("*"), 2, 599);
        bad("*", 2, 0);
        bad("turn a b c;", 2, 9);
        bad("turn a;", 2, 6);
        bad("key a rank 1; when a say ;", 2, 25);
        bad("key a rank 1; when a 1 say b;", 2, 21);
        bad("key a rank 1; when a say *;", 2, 25);
        bad("key a rank 1; when a say b or;", 2, 29);
        bad("key a rank 1; when a;", 2, 20);
        bad("key a rank 1; keep a say b or c;", 2, 27);
        bad("key a rank 1; keep a say go a;", 2, 25);
        bad("key a rank 1; when a say go a b;", 2, 30);
        bad("key a rank 1; when a say b go a;", 2, 27);
        bad("key a rank 1; when a say go;", 2, 27);
        bad("none;", 2, 4);
        bad("none a b !", 1, 9);
    }

    private static void names() {
        String[] reserved = {"turn", "key", "rank", "when", "say", "keep", "none", "or", "go"};
        for (String word : reserved) {
            bad("turn " + word + " a;", 2, 5);
            bad("turn a " + word + ";", 2, 7);
            bad("key " + word + " rank 1;", 2, 4);
            bad("key a rank 1; when a say go " + word + ";", 2, 28);
            bad("key a rank 1; keep a say " + word + ";", 2, 25);
            bad("key a rank 1; when " + word + " say b;", 2, 19);
            good("turn " + word + "x " + word + "y;", 0);
        }
        bad("turn abcdefghi a;", 2, 5);
        bad("key abcdefghi rank 1;", 2, 4);
        bad("key a rank 1; when abcdefghi say b;", 2, 19);
        bad("key a rank 1; when a say abcdefghi;", 2, 25);
        bad("key a rank 1; when a say b abcdefghi;", 2, 27);
        bad("key a rank 1; when a a a a a a a a abcdefghi say b;", 2, 35);
        bad("none a a a a a a a a a a abcdefghi;", 2, 25);
        bad("abcdefghi", 2, 0);
        bad("key a abcdefghi 1;", 2, 6);
        good("key abcdefgh rank 1;", 0);
    }

    /** Faults 3 and 4. */
    private static void semantics() {
        bad("key a rank 1; key b rank 1; key a rank 2;", 3, 32);
        bad("turn a b; turn b a; turn a c;", 3, 25);
        good("turn a b; turn b a; turn c c;", 0);
        good("key a rank 1; turn a a; none a;", 0);
        bad("keep * say a; key a rank 1;", 4, 0);
        bad("none a; when !", 4, 8);
        bad("none a; none !", 4, 8);
        bad("key a rank 1; when * ? say 3;", 4, 27);
        bad("key a rank 1; when * ? say 1 2 0;", 4, 31);
        bad("key a rank 1; when a say 1;", 4, 25);
        bad("key a rank 1; keep * say 99;", 4, 25);
        bad("key a rank 1; when * say 1; none 1;", 4, 33);
        good("key a rank 1; when * ? say 02 or 1 a 1;", 1);
        good("key a rank 1; when ******** say 8;", 1);
    }

    /** Faults 5, and the least kind of one token. */
    private static void limits() {
        StringBuilder keys = new StringBuilder();
        StringBuilder turns = new StringBuilder();
        StringBuilder rules = new StringBuilder("key a rank 1;");
        for (int i = 0; i < 12; i++) {
            keys.append("key ").append((char) ('a' + i)).append(" rank 1;");
            turns.append("turn ").append((char) ('a' + i)).append(" b;");
        }
        for (int i = 0; i < 24; i++) {
            rules.append(i % 2 == 0 ? "when a say b;" : "keep a say b;");
        }
        good(keys.toString(), 0);
        bad(keys + " key a rank 1;", 5, keys.length() + 1);
        good(turns.toString(), 0);
        bad(turns + "turn a b;", 5, turns.length());
        good(rules.toString(), 24);
        bad(rules + "when !", 5, rules.length());
        bad(rules + "keep a say b;", 5, rules.length());
        good("none a or b or c or d;", 0);
        bad("none a or b or c or d or;", 5, 22);
        good("key a rank 1; when * ? * ? * ? a a say b;", 1);
        bad("key a rank 1; when * ? * ? * ? a a * say b;", 5, 35);
        bad("key a rank 1; when * ? * ? * ? a a ? say b;", 5, 35);
        bad("key a rank 1; when * ? * ? * ? a a a say b;", 5, 35);
        bad("key a rank 1; when * ? * ? * ? a a 1 say b;", 2, 35);
        good("key a rank 1; keep * say 1 1 1 1 1 1 1 1 1 1;", 1);
        bad("key a rank 1; keep * say 1 1 1 1 1 1 1 1 1 1 1;", 5, 45);
        bad("key a rank 1; keep * say 1 1 1 1 1 1 1 1 1 1 2;", 4, 45);
        bad("key a rank 1; keep * say 1 1 1 1 1 1 1 1 1 1 or", 2, 45);
    }

    /** Fault 6 comes when all else is well. */
    private static void goes() {
        good("none go b; key a rank 1; when a say go b or go a; key b rank 1;", 1);
        bad("none go x; key a rank 1; when a say go y;", 6, 8);
        bad("key a rank 1; when a say go a or go y or go x;", 6, 36);
        bad("none go x; key a rank 1; when a say 1;", 4, 36);
        bad("none go x", 2, 9);
    }

    /** Promises 15 and 16. */
    private static void counts() {
        AskBack x = new AskBack();
        String text = "turn a b; key a rank 1; key b rank 99; when * say 1 or x; keep b say b; key c rank 3; "
                + "when c say go b or go a or go c or d; none a;";
        CHECK.due(x, "script", Check.script(x, 1, text), 3, 0);
        int[] want = {3, 3, 1, 0};
        for (int what = 0; what < 4; what++) {
            CHECK.due(x, "count(1, " + what + ")", x.count(1, what), want[what], 0);
        }
        CHECK.refused(x, "count(1, 4)", x.count(1, 4), 1);
        CHECK.refused(x, "count(1, -1)", x.count(1, -1), 1);
        CHECK.refused(x, "count(3, 0)", x.count(3, 0), 1);
        CHECK.refused(x, "count(-1, 0)", x.count(-1, 0), 1);
        int[][] rules = {{1, 0, 2, 0}, {1, 1, 1, 0}, {2, 0, 4, 0}};
        for (int rule = 0; rule < 3; rule++) {
            for (int what = 0; what < 4; what++) {
                CHECK.due(x, "rule " + rule + " " + what, x.rule(1, rule, what), rules[rule][what], 0);
            }
        }
        CHECK.refused(x, "rule(1, 3, 0)", x.rule(1, 3, 0), 1);
        CHECK.refused(x, "rule(1, -1, 0)", x.rule(1, -1, 0), 1);
        CHECK.refused(x, "rule(0, 0, 0)", x.rule(0, 0, 0), 1);
        CHECK.refused(x, "rule(3, 0, 0)", x.rule(3, 0, 0), 1);
        CHECK.refused(x, "rule(1, 0, 4)", x.rule(1, 0, 4), 1);
        CHECK.refused(x, "rule(1, 0, -1)", x.rule(1, 0, -1), 1);
        Check.line(x, "b c");
        x.say(1, 0);
        CHECK.due("whose turn is next", x.rule(1, 0, 3), 1);
        CHECK.due("none's rule is none", x.count(1, 3), 0);
        x.say(1, 0);
        CHECK.due("behind the last the first again", x.rule(1, 0, 3), 0);
    }
}
