/** Scripts as texts, behind ==== 2, and promises 11, 15 and 16, at their edges. */
final class EdgesOfScripts extends Edges {
    private static final String[] RESERVED = {"turn", "key", "rank", "when", "say", "keep", "none", "or", "go"};
    private static final String[] TOKENS = {"turn", "key", "rank", "when", "say", "keep", "none", "or", "go", "b",
        "abcdefgh", "abcdefghi", "1", "01", "123", ";", "*", "?", "!", ""};

    EdgesOfScripts(Check check, Document document) {
        super(check, document);
    }

    @Override
    void hold() {
        numbersOfScripts();
        bytes();
        tokens();
        numbers();
        parts();
        patterns();
        answers();
        names();
        turns();
        keysAndRules();
        gapsInAnswers();
        goes();
        firstFaults();
        noToken();
        cantStand();
        toldAlready();
        aheadOrTwice();
        tooMany();
        goesToNoKey();
        fresh();
        scriptCalls();
        counts();
        rules();
    }

    private void good(String text, int rules) {
        AskBack x = new AskBack();
        check.due(x, "script '" + text + "'", Check.script(x, 2, text), rules, 0);
        check.due("fault(0) of '" + text + "'", x.fault(0), 0);
        check.due("fault(1) of '" + text + "'", x.fault(1), -1);
        check.due("its rules", x.count(2, 1), rules);
        check.due("the tape is empty", x.feed(0, 0, 0, 0, 0), 20);
    }

    private void bad(String text, int kind, int place) {
        AskBack x = with("key old rank 7; when old say z or x; none y;", "old");
        x.say(0, 0);
        check.refused(x, "script '" + text + "'", Check.script(x, 0, text), 9);
        check.due("fault(0) of '" + text + "'", x.fault(0), kind);
        check.due("fault(1) of '" + text + "'", x.fault(1), place);
        check.due("the old one stays in its state", x.rule(0, 0, 3), 1);
        check.due("the tape is empty", x.feed(0, 0, 0, 0, 0), 20);
    }

    /** Kind and place are asked behind a text that goes on well or not. */
    private void badAtEnd(String ahead, String token, int kind) {
        bad(ahead + token, kind, ahead.length());
        bad(ahead + token + " a;", kind, ahead.length());
    }

    private void numbersOfScripts() {
        holds("SCRIPTS 0 to 2:");
        AskBack x = new AskBack();
        for (int script = 0; script < 3; script++) {
            String text = "none " + letter(script) + ";";
            check.due(x, "script " + script, Check.script(x, script, text), 0, 0);
        }
        heard(x, "q");
        for (int script = 0; script < 3; script++) {
            check.says(x, script, 0, "" + letter(script));
        }
        x.tray(0, 0, 1);
        for (int script : new int[] {-1, 3, FAR[0], FAR[3]}) {
            String of = " of script " + script;
            check.refused(x, "script()" + of, x.script(script, 0), 1);
            check.refused(x, "count()" + of, x.count(script, 0), 1);
            check.refused(x, "rule()" + of, x.rule(script, 0, 0), 1);
            check.refused(x, "fit()" + of, x.fit(script, 0, 0), 1);
            check.refused(x, "turned()" + of, x.turned(script, 1), 1);
            check.due(x, "begin()" + of, x.begin(script), 1);
            check.refused(x, "say()" + of, x.say(script, 0), 1);
            check.refused(x, "remembered()" + of, x.remembered(script, 0, 0), 1);
            check.refused(x, "talk()" + of, x.talk(script, 0, 1), 1);
            check.refused(x, "lead()" + of, x.lead(script, 0, 1, 0), 1);
            check.refused(x, "face()" + of, x.face(script, 0, 0, 1), 1);
            check.refused(x, "face() with it" + of, x.face(0, script, 0, 1), 1);
            check.refused(x, "broke()" + of, x.broke(script, 0, 1), 1);
            check.refused(x, "mend()" + of, x.mend(script, 0, 1, 0), 1);
            check.refused(x, "least()" + of, x.least(script, 0, 1), 1);
            check.refused(x, "orders()" + of, x.orders(script), 1);
        }
    }

    private void bytes() {
        holds("each a TEXT of at most 600 bytes (the empty one at first).");
        AskBack x = with("", "q");
        for (int script = 0; script < 3; script++) {
            check.due("keys at first", x.count(script, 0), 0);
            check.due("rules at first", x.count(script, 1), 0);
            check.due("turns at first", x.count(script, 2), 0);
            check.due("it says nothing", x.say(script, 0), 0);
            told(x, 5, -1, -1, -1, 0);
        }
        good("", 0);
        good(" ".repeat(600), 0);
        good("key a rank 1;".concat("\n".repeat(574)).concat("when * say b;"), 1);
        bad(" ".repeat(599).concat(";"), 2, 599);
        bad(" ".repeat(595).concat("none "), 2, 600);
        AskBack y = new AskBack();
        Check.feed(y, " ".repeat(600));
        check.refused(y, "script(0, 601)", y.script(0, 601), 1);
        check.due(y, "script(0, 600)", y.script(0, 600), 0, 0);
        // as many tokens as bytes, and as many parts as a text can have
        bad(";".repeat(600), 2, 0);
        good("key a rank 1;" + joined(9, i -> "when********say a1or a1or a1or a1a1a1a1a1;"), 9);
    }

    private void tokens() {
        holds("TOKENS, as long as they go, between them blanks: WORDS (small letters),");
        good("turn a b;key a rank 1;when*a?say 1a2or b1;none a;", 1);
        good("\n key\n\na  rank\n1\n;\n", 0);
        good("key a rank 1;when**say 1;", 1);
        good("key a rank 1;when a*b?say a;", 1);
        bad("keya rank 1;", 2, 0);
        bad("key a rank1;when asay b;", 2, 23);
        good("key a rank1;", 0);
        bad("key a rank 1;none a or;", 2, 22);
        good("key a rank 1;none aor;", 0);
        good("key a rank 1;when ? say 1or b;", 1);
        bad("key a rank 1;when ? say 1orb 2;", 4, 29);
    }

    private void numbers() {
        holds("NUMBERS (1 or 2 digits),");
        for (String number : new String[] {"0", "1", "9", "00", "01", "10", "99"}) {
            good("key a rank " + number + ";", 0);
        }
        for (String number : new String[] {"000", "001", "100", "999", "1000", "1".repeat(300)}) {
            bad("key a rank " + number + ";", 1, 11);
        }
        good("key a rank 1; when ******** say 1 2 3 4 5 6 7 8;", 1);
        good("key a rank 1; when ******** say 01 02 08;", 1);
        holds("SIGNS ; * ?");
        for (int sign = 0; sign < 256; sign++) {
            boolean blank = sign == 10 || sign == 32;
            boolean letter = sign >= 97 && sign <= 122;
            boolean digit = sign >= 48 && sign <= 57;
            boolean can = blank || letter || digit || sign == ';' || sign == '*' || sign == '?';
            String text = "key k rank 1; " + (char) sign;
            if (blank) {
                good(text, 0);
            } else {
                bad(text, can ? 2 : 1, 14);
            }
        }
        bad("! when", 1, 0);
        bad("none a" + (char) 9 + ";", 1, 6);
    }

    /** Which tokens can stand behind a beginning; all others are fault 2 there, those that are none fault 1. */
    private void behind(String ahead, String can) {
        for (String token : TOKENS) {
            String kind = token.isEmpty() ? "end" : token.matches("b|abcdefgh") ? "name" : token.matches("1|01") ? "1" : token;
            boolean none = token.equals("123") || token.equals("!");
            AskBack x = new AskBack();
            String text = ahead + token;
            Check.script(x, 0, text);
            if ((" " + can + " ").contains(" " + kind + " ")) {
                boolean further = x.status() == 0 || x.fault(1) > ahead.length() || !token.isEmpty() && x.fault(0) > 2;
                check.due("'" + token + "' can stand behind '" + ahead + "'", further, true);
            } else {
                check.due(x, "script '" + text + "'", -1, -1, 9);
                check.due("the fault of '" + text + "'", x.fault(0), none ? 1 : 2);
                check.due("its place", x.fault(1), ahead.length());
            }
        }
    }

    private void parts() {
        holds("TEXT: {PART}.");
        good("", 0);
        behind("", "turn key when keep none end");
        behind("key k rank 1; ", "turn key when keep none end");
        behind("none a; ", "turn key when keep none end");
        holds("PART: turn NAME NAME ; or key NAME rank NUMBER ; or when PATTERN say ANSWERS ; or keep PATTERN say ANSWER ;"
                + " or none ANSWERS ;");
        behind("turn ", "name");
        behind("turn t ", "name");
        behind("turn t u ", ";");
        behind("key ", "name");
        behind("key k ", "rank");
        behind("key k rank ", "1");
        behind("key k rank 1 ", ";");
        behind("key k rank 1; when a say b; ", "turn key when keep none end");
        behind("key k rank 1; keep a say b; ", "turn key when keep none end");
        behind("turn t u; ", "turn key when keep none end");
        good("turn t t;", 0);
    }

    private void patterns() {
        holds("PATTERN: ITEM {ITEM}. ITEM: NAME, or * or ?");
        behind("key k rank 1; when ", "name * ?");
        behind("key k rank 1; when a ", "name * ? say");
        behind("key k rank 1; when * ", "name * ? say");
        behind("key k rank 1; keep ", "name * ?");
        behind("key k rank 1; keep ? ", "name * ? say");
        good("key k rank 1; when * say a; when ? say a; when a say a; when *? a**? say a;", 4);
    }

    private void answers() {
        holds("ANSWERS: ANSWER {or ANSWER}.");
        behind("key k rank 1; when * say a or ", "go name 1");
        behind("key k rank 1; when * say go k ", "or ;");
        behind("none a or ", "go name 1");
        behind("none go k ", "or ;");
        holds("ANSWER: go NAME, or PIECE {PIECE}.");
        behind("key k rank 1; when * say ", "go name 1");
        behind("key k rank 1; when * say go ", "name");
        behind("none ", "go name 1");
        behind("none go ", "name");
        holds("PIECE: NAME, or NUMBER. ({ } any number of times.)");
        behind("key k rank 1; when * say a ", "name 1 or ;");
        behind("key k rank 1; when * say 1 ", "name 1 or ;");
        behind("key k rank 1; keep * say ", "name 1");
        behind("key k rank 1; keep * say a ", "name 1 ;");
        behind("key k rank 1; keep * say 1 ", "name 1 ;");
        behind("none a ", "name 1 or ;");
        good("key k rank 1; when * say 1 or go k or a 1 or go k; none go k or a b;", 1);
    }

    private void names() {
        holds("NAME: a WORD of 1 to 8 letters that is none of turn, key, rank, when, say, keep, none, or, go.");
        for (String name : new String[] {"a", "z", "abcdefgh", "zzzzzzzz", "turns", "keys", "ran", "whens", "says", "keeps",
            "non", "ors", "g", "o", "r", "ke", "sa", "turnturn"}) {
            inAllPlaces(name, true);
        }
        for (String name : RESERVED) {
            inAllPlaces(name, false);
        }
        inAllPlaces("abcdefghi", false);
        inAllPlaces("a".repeat(60), false);
    }

    private void inAllPlaces(String name, boolean can) {
        String[] ahead = {"turn ", "turn q ", "key ", "key k rank 1; when ", "key k rank 1; when a say go ", "none go ",
            "key k rank 1; keep * say ", "key k rank 1; keep "};
        String[] behind = {" b;", ";", " rank 1;", " say b;", "; key NAME rank 2;", "; key NAME rank 2;", ";", " say b;"};
        int[] rules = {0, 0, 0, 1, 1, 0, 1, 1};
        for (int i = 0; i < ahead.length; i++) {
            String text = ahead[i] + name + behind[i].replace("NAME", name);
            if (can) {
                good(text, rules[i]);
            } else {
                bad(text, 2, ahead[i].length());
            }
        }
    }

    private void turns() {
        holds("turn: the first NAME becomes the second one where a piece is TURNED.");
        AskBack x = with("turn i you; turn you me; turn k k; key k rank 1; keep k * say i 1; when k * say i k 1 you;",
                "k i you me k z");
        says(x, 0, "i k you me me k z you", 0, 0, 1, 0, 0);
        remembers(x, "i you me me k z");
        check.due("turned once only", x.turned(0, Check.word("i")), Check.word("you"));
        check.due("to itself", x.turned(0, Check.word("k")), Check.word("k"));
        check.due("the second one's own turn", x.turned(0, Check.word("you")), Check.word("me"));
        check.due("what is only a second one", x.turned(0, Check.word("me")), Check.word("me"));
        holds("`long turned(int script, long word)`: A WORD TURNED, as numbers (1: no WORD).");
        String twelve = joined(12, i -> "turn " + letter(i) + " " + letter(25 - i) + ";");
        AskBack y = with(twelve);
        for (int i = 0; i < 26; i++) {
            check.due(y, "turned " + letter(i), y.turned(0, i + 1), i < 12 ? 26 - i : i + 1, 0);
        }
        check.refused(y, "turned of no word", y.turned(0, 0), 1);
        check.refused(y, "turned of no word", y.turned(0, 27), 1);
    }

    private void keysAndRules() {
        holds("KEYS are numbered as they stand. RULES are numbered as when and keep stand; they are of the KEY told latest.");
        AskBack x = with("key b rank 1; keep * say b; when * say b; key a rank 9; key c rank 5; none n; when * say c;"
                + " turn q r; keep * say c;");
        int[][] want = {{0, 1}, {0, 0}, {2, 0}, {2, 1}};
        for (int rule = 0; rule < 4; rule++) {
            check.due(x, "key of rule " + rule, x.rule(0, rule, 0), want[rule][0], 0);
            check.due(x, "keep of rule " + rule, x.rule(0, rule, 1), want[rule][1], 0);
        }
        check.refused(x, "a fifth rule", x.rule(0, 4, 0), 1);
        check.due("keys", x.count(0, 0), 3);
    }

    private void gapsInAnswers() {
        holds("NUMBER k of an ANSWER: what GAP k of its PATTERN took (from 1: its * and ? as they stand), TURNED WORD by"
                + " WORD.");
        AskBack x = with("turn b bb; turn e ee; key k rank 1; when ? * k ? * say 4 z 3 z 2 z 1 or 04 or 2 2 or 1;",
                "a b c k d e e", "a k d");
        says(x, 0, "ee ee z d z bb c z a", 0, 0, 0, 0, 0);
        says(x, 0, "ee ee", 0, 0, 0, 1, 0);
        says(x, 0, "bb c bb c", 0, 0, 0, 2, 0);
        x.begin(0);
        // gaps that took none give no words
        says(x, 1, "z d z z a", 0, 0, 0, 0, 0);
        says(x, 1, "", 0, 0, 0, 1, 0);
        AskBack y = with("key k rank 1; when k ? ? ? ? ? ? ? say 7 1;", "k a b c d e f g");
        says(y, 0, "g a", 0, 0, 0, 0, 0);
        AskBack z = with("key k rank 1; when ******** say 8 7 x 1 2;", "k l");
        says(z, 0, "k l x", 0, 0, 0, 0, 0);
        // eight gaps of the last rule that can be
        AskBack w = with("key k rank 1;" + "when k say b;".repeat(23) + "when ???????? say 1 8 or 8;", "k a b c d e f g", "k");
        says(w, 0, "k g", 0, 0, 23, 0, 0);
        says(w, 1, "b", 1, 0, 0, 0, 0);
        says(w, 0, "g", 0, 0, 23, 1, 0);
    }

    private void goes() {
        holds("go NAME: to a KEY that may be told anywhere.");
        good("none go b; key a rank 1; when a say go b or go a; key b rank 1;", 1);
        AskBack x = with("none go z; key a rank 1; when a say go z; key z rank 0; when * say there;", "a", "q");
        says(x, 0, "there", 2, 1, 1, 0, 1);
        says(x, 1, "there", 2, 1, 1, 0, 1);
    }

    private void firstFaults() {
        holds("FAULTS, the first along the text (of one TOKEN the least kind):");
        bad("none a; none b; when !", 4, 8);
        bad("none a; when ! none b;", 4, 8);
        bad("key a rank 1; key a rank 100;", 3, 18);
        bad("key a rank 100; key a rank 1;", 1, 11);
        bad("none go x; key a rank 1; key a rank 2;", 3, 29);
        bad("turn a b; turn a !", 3, 15);
        bad("turn a b; turn ! b;", 1, 15);
        // of one token: 4 ahead of 5, 2 ahead of 5, 1 ahead of all
        String pieces = "key a rank 1; when * say " + "1 ".repeat(10);
        bad(pieces + "2;", 4, pieces.length());
        bad(pieces + "0;", 4, pieces.length());
        bad(pieces + "1;", 5, pieces.length());
        bad(pieces + "say", 2, pieces.length());
        bad(pieces + "abcdefghi;", 2, pieces.length());
        bad(pieces + "123;", 1, pieces.length());
        String items = "key a rank 1; when " + "? ".repeat(8);
        bad(items + "abcdefghi", 2, items.length());
        bad(items + "1", 2, items.length());
        bad(items + "123", 1, items.length());
        bad(items + "?", 5, items.length());
        String four = "none a or b or c or d ";
        bad(four + "or", 5, four.length());
        bad(four + "go", 2, four.length());
        bad("key a rank 1; when a say 123;", 1, 25);
    }

    private void noToken() {
        holds("1 no TOKEN begins so (a NUMBER of 3 digits and more: at its first).");
        badAtEnd("", "!", 1);
        badAtEnd("", "A", 1);
        badAtEnd("", "123", 1);
        badAtEnd("key a rank 1; when a say b ", "1234", 1);
        badAtEnd("key a rank ", "-1", 1);
        badAtEnd("key a rank 1", ",", 1);
        badAtEnd("key a", "B", 1);
        badAtEnd("key a rank 1;", "" + (char) 255, 1);
        badAtEnd("key a rank 1;", "" + (char) 128, 1);
        badAtEnd("key a rank 1;", "" + (char) 0, 1);
    }

    private void cantStand() {
        holds("2 it can't stand there (the end: the text's length; also a WORD of 9 letters and more where a NAME must"
                + " stand).");
        String[] open = {"turn", "turn a", "turn a b", "key", "key a", "key a rank", "key a rank 1", "none", "none a",
            "none a or", "none go", "none go a", "key a rank 1; when", "key a rank 1; when *", "key a rank 1; when * say",
            "key a rank 1; when * say 1", "key a rank 1; when * say 1 or", "key a rank 1; keep * say 1"};
        for (String text : open) {
            bad(text, 2, text.length());
            bad(text + " \n ", 2, text.length() + 3);
        }
        bad("turn abcdefghi a;", 2, 5);
        bad("turn a abcdefghi;", 2, 7);
        bad("key abcdefghi rank 1;", 2, 4);
        bad("key a rank 1; when abcdefghi say b;", 2, 19);
        bad("key a rank 1; when a say abcdefghi;", 2, 25);
        bad("key a rank 1; when a say go abcdefghi;", 2, 28);
        bad("abcdefghi", 2, 0);
    }

    private void toldAlready() {
        holds("3 a KEY with a NAME that is one already;");
        bad("key a rank 1; key a rank 1;", 3, 18);
        bad("key a rank 1; key b rank 1; when a say b; key b rank 2", 3, 46);
        String eleven = joined(11, i -> "key " + letter(i) + " rank 1;");
        bad(eleven + "key a rank 1;", 3, eleven.length() + 4);
        bad(eleven + "key k rank 1;", 3, eleven.length() + 4);
        good(eleven + "key l rank 1;", 0);
        good("key a rank 1; key ab rank 1; key aa rank 1;", 0);
        holds("a turn from a NAME from which one is told already (at the NAME).");
        bad("turn a b; turn a b;", 3, 15);
        bad("turn a b; turn b a; turn b", 3, 25);
        String elevenTurns = joined(11, i -> "turn " + letter(i) + " z;");
        bad(elevenTurns + "turn k y;", 3, elevenTurns.length() + 5);
        good(elevenTurns + "turn z z;", 0);
        good("turn a b; turn b a; turn c a; key a rank 1;", 0);
    }

    private void aheadOrTwice() {
        holds("4 a when or keep ahead of any KEY, a second none (at that WORD);");
        bad("when a say b; key a rank 1;", 4, 0);
        bad("keep a say b; key a rank 1;", 4, 0);
        bad("turn a b; none c; keep !", 4, 18);
        bad("turn a b; none c; when !", 4, 18);
        good("key a rank 1; turn a b; none c; when a say b;", 1);
        bad("none a; none b;", 4, 8);
        bad("none a or b; key a rank 1; none", 4, 27);
        bad("none go a; key a rank 1; none b;", 4, 25);
        holds("a NUMBER of an ANSWER that none of its PATTERN's GAPS has (in none: any).");
        bad("key a rank 1; when a say 1;", 4, 25);
        bad("key a rank 1; when * say 0;", 4, 25);
        bad("key a rank 1; when * say 00;", 4, 25);
        bad("key a rank 1; when * say 2;", 4, 25);
        bad("key a rank 1; when * say 99;", 4, 25);
        bad("key a rank 1; keep * a ? say 1 2 3;", 4, 33);
        bad("key a rank 1; when ******** say 9;", 4, 32);
        bad("key a rank 1; when ** say 2 or 1 or 3;", 4, 36);
        bad("key a rank 1; when ** say 2; when * say 2;", 4, 40);
        good("key a rank 1; when ** say 2; when * say 1;", 2);
        for (String number : new String[] {"0", "1", "8", "99"}) {
            bad("none " + number + ";", 4, 5);
            bad("none a or b " + number + ";", 4, 12);
        }
        bad("key a rank 1; when ** say 2; none 1;", 4, 34);
    }

    private void tooMany() {
        holds("5 a 13th KEY (at key), a 25th RULE (at when, keep), a 13th turn (at turn), a 5th ANSWER (at or), a 9th ITEM, an"
                + " 11th PIECE (at it).");
        String keys = joined(12, i -> "key " + letter(i) + " rank 1;");
        good(keys, 0);
        badAtEnd(keys, "key", 5);
        bad(keys + "key a rank 1;", 5, keys.length());
        bad(keys + "key m rank 1;", 5, keys.length());
        String rules = "key a rank 1;" + joined(24, i -> i % 3 == 0 ? "keep a say b;" : "when a say b;");
        good(rules, 24);
        badAtEnd(rules, "when", 5);
        badAtEnd(rules, "keep", 5);
        good(rules + "none a;", 24);
        String turns = joined(12, i -> "turn " + letter(i) + " b;");
        good(turns, 0);
        badAtEnd(turns, "turn", 5);
        String[] ofAnswers = {"none ", "key a rank 1; when a say "};
        for (int i = 0; i < 2; i++) {
            String four = ofAnswers[i] + "a or b or c or d";
            good(four + ";", i);
            badAtEnd(four + " ", "or", 5);
            String goes = "key z rank 1;" + ofAnswers[i] + "go z or go z or go z or go z";
            good(goes + ";", i);
            badAtEnd(goes + " ", "or", 5);
        }
        for (String item : new String[] {"*", "?", "a"}) {
            for (String rule : new String[] {"when ", "keep "}) {
                String eight = "key a rank 1; " + rule + (item + " ").repeat(8);
                good(eight + "say b;", 1);
                badAtEnd(eight, item, 5);
            }
        }
        for (String piece : new String[] {"b", "1"}) {
            for (String rule : new String[] {"when * say ", "keep * say ", "when * say 1 or a or "}) {
                String ten = "key a rank 1; " + rule + (piece + " ").repeat(10);
                good(ten + ";", 1);
                badAtEnd(ten, piece, 5);
            }
        }
        good("none " + "a ".repeat(10) + ";", 0);
        badAtEnd("none " + "a ".repeat(10), "a", 5);
    }

    private void goesToNoKey() {
        holds("When all else is well: 6 the first go to a NAME that is no KEY (at that NAME).");
        bad("none go x;", 6, 8);
        bad("none a or go x;", 6, 13);
        bad("key a rank 1; when a say go a or go y or go x;", 6, 36);
        bad("none go x; key a rank 1; when a say go y;", 6, 8);
        bad("turn x y; none go x;", 6, 18);
        bad("key a rank 1; when a say go b; when b say go c; key b rank 1;", 6, 45);
        bad("none go x; !", 1, 11);
        bad("none go x", 2, 9);
        bad("none go x; turn a b; turn a c;", 3, 26);
        bad("none go x; none a;", 4, 11);
        bad("none go x or a or a or a or a;", 5, 25);
        String many = "key a rank 1;" + joined(20, i -> "when a say go a or go a;");
        good(many, 20);
        bad(many + "none go a or go x;", 6, many.length() + 16);
    }

    private void fresh() {
        holds("A SCRIPT that is taken is FRESH: each RULE's and none's first ANSWER is next, nothing is REMEMBERED.");
        String text = "key a rank 1; keep a * say kept 1; when a say p or q; none n or m;";
        AskBack x = with(text, "a", "q", "a b c");
        x.say(0, 0);
        x.say(0, 1);
        x.say(0, 1);
        x.say(0, 0);
        remembers(x, "kept");
        check.due("whose turn", x.rule(0, 1, 3), 0);
        says(x, 0, "p", 1, 0, 1, 0, 0);
        check.refused(x, "a script with a fault", Check.script(x, 0, text + "!"), 9);
        check.due("leaves the turn", x.rule(0, 1, 3), 1);
        check.due("and what is remembered", x.count(0, 3), 2);
        given(x, 1, text);
        check.due("another script, too", x.rule(0, 1, 3), 1);
        given(x, 0, text);
        check.due("the same one again has its first answer next", x.rule(0, 1, 3), 0);
        remembers(x);
        says(x, 1, "n", 4, -1, -1, 0, 0);
        takenAgain();
    }

    /** Nothing of a script that stood there stays: neither its parts, nor the rules of its keys, nor its goes, nor its none. */
    private void takenAgain() {
        String full = joined(12, i -> "turn t" + letter(i) + " b;") + "key a rank 9; key b rank 9;"
                + "when a * say 1 b b b b b b b b b or go a;".repeat(6) + "none go a or go b;";
        AskBack x = with("", "a b c", "z", "b", "q", "ta");
        String mostParts = "key a rank 1;" + joined(13, i -> "when********say a1a1a1a1a1or b1a1a1a1a1;");
        for (int i = 0; i < 6; i++) {
            given(x, 0, mostParts);
            says(x, 0, "a a a a a", 0, 0, 0, 0, 0);
        }
        given(x, 0, full);
        check.refused(x, "a script with a fault", Check.script(x, 0, full + "!"), 9);
        says(x, 0, "b c b b b b b b b b b", 0, 1, 0, 0, 0);
        given(x, 0, full.replace("a *", "a ? *"));
        says(x, 0, "b b b b b b b b b b", 0, 1, 0, 0, 0);
        for (int i = 0; i < 3; i++) {
            given(x, 0, "key z rank 1; key b rank 1; key a rank 1; when b say p or q; when * say 1;");
            says(x, 1, "", 5, -1, -1, -1, 0);
            says(x, 2, "", 5, -1, -1, -1, 0);
            says(x, 0, "a b c", 0, 2, 1, 0, 0);
            says(x, 3, "", 5, -1, -1, -1, 0);
            check.due("no turns", x.turned(0, Check.word("ta")), Check.word("ta"));
            given(x, 0, full);
        }
    }

    private void scriptCalls() {
        holds("`int script(int script, int n)`: The first n bytes of the tape (which is empty then) are a SCRIPT: how many"
                + " RULES (1: n below 0, or more than the tape has, too; 9: the old one stays as it is).");
        AskBack x = with("key a rank 1; when a say b; none c;", "a");
        Check.feed(x, "none x; none y;");
        for (int n : new int[] {-1, 21, 600, FAR[0], FAR[3]}) {
            check.refused(x, "script(0, " + n + ") of 20", x.script(0, n), 1);
        }
        check.refused(x, "no script, a fault in the text", x.script(3, 15), 1);
        check.due("no fault is told by these", x.fault(0), 0);
        check.due("the tape stays", x.feed(0, 0, 0, 0, 0), 40);
        check.refused(x, "a fault", x.script(0, 15), 9);
        check.due("the fault's place", x.fault(1), 8);
        check.refused(x, "the tape is empty", x.script(0, 1), 1);
        says(x, 0, "b", 1, 0, 0, 0, 0);
        Check.feed(x, "none x; none y;");
        check.due(x, "the first 7 bytes", x.script(0, 7), 0, 0);
        check.refused(x, "the tape is empty", x.script(0, 1), 1);
        says(x, 0, "x", 4, -1, -1, 0, 0);
        Check.feed(x, "none x;");
        check.due(x, "none of its bytes", x.script(0, 0), 0, 0);
        check.refused(x, "the tape is empty", x.script(0, 1), 1);
        says(x, 0, "", 5, -1, -1, -1, 0);
        String most = "key a rank 1;" + "when a say b;".repeat(24);
        check.due(x, "as many rules as can be", Check.script(x, 0, most), 24, 0);
    }

    private void counts() {
        holds("`int count(int script, int what)`: Of a SCRIPT, what 0: how many KEYS, 1: RULES, 2: turns, 3: REMEMBERED (1).");
        String text = joined(12, i -> "turn " + letter(i) + " b;key " + letter(i) + " rank 1;");
        AskBack x = with(text + "keep * say a;keep * say a;".repeat(6) + "when z say a;", "l");
        x.say(0, 0);
        int[] want = {12, 13, 12, 5};
        for (int what = 0; what < 4; what++) {
            check.due(x, "count(0, " + what + ")", x.count(0, what), want[what], 0);
            check.due(x, "count(1, " + what + ")", x.count(1, what), 0, 0);
        }
        for (int what : new int[] {-1, 4, FAR[0], FAR[3]}) {
            check.refused(x, "count(0, " + what + ")", x.count(0, what), 1);
            check.refused(x, "count(3, " + what + ")", x.count(3, what), 1);
        }
    }

    private void rules() {
        holds("`int rule(int script, int rule, int what)`: Of a RULE, what 0: its KEY, 1: 1 for a keep, else 0, 2: how many"
                + " ANSWERS, 3: whose turn is next (from 0; of a keep 0) (1).");
        AskBack x = with("key b rank 1; key a rank 1; when a say p or q or o or x; keep a say k;"
                + "keep x say b;".repeat(21) + "when b say go a or b;", "a", "b");
        for (int i = 0; i < 9; i++) {
            check.due(x, "whose turn is next of four", x.rule(0, 0, 3), i % 4, 0);
            check.due(x, "of a keep", x.rule(0, 1, 3), 0, 0);
            x.say(0, 0);
        }
        check.due("the keep was made", x.count(0, 3), 6);
        int[][] want = {{1, 0, 4, 1}, {1, 1, 1, 0}, {1, 1, 1, 0}, {1, 0, 2, 0}};
        int[] of = {0, 1, 22, 23};
        for (int i = 0; i < of.length; i++) {
            for (int what = 0; what < 4; what++) {
                check.due(x, "rule(0, " + of[i] + ", " + what + ")", x.rule(0, of[i], what), want[i][what], 0);
            }
        }
        for (int rule : new int[] {-1, 24, FAR[0], FAR[3]}) {
            check.refused(x, "rule(0, " + rule + ", 0)", x.rule(0, rule, 0), 1);
        }
        for (int what : new int[] {-1, 4, FAR[0], FAR[3]}) {
            check.refused(x, "rule(0, 0, " + what + ")", x.rule(0, 0, what), 1);
        }
        check.refused(x, "a rule of an empty script", x.rule(1, 0, 0), 1);
    }
}
