/** The terms and promises of trays, words, lines and the tape (1 to 10, 12 to 14), at their edges. */
final class EdgesOfTexts extends Edges {
    EdgesOfTexts(Check check, Document document) {
        super(check, document);
    }

    @Override
    void hold() {
        newObject();
        trays();
        sizesOfTrays();
        sorts();
        writesAndReads();
        pours();
        poursInOrder();
        words();
        linesOfWords();
        bytesOfLines();
        blanks();
        firstFaults();
        longWords();
        thirteenthWord();
        tape();
        lineCalls();
        lineCallsInOrder();
        faults();
        howMany();
        wordsOfLines();
    }

    private void newObject() {
        holds("`AskBack()`: Empty SCRIPTS, no LINES, couples, TALK, MARKS; TRAYS are MISSING; an empty tape; the FRACTION"
                + " 0 by 1; STATUS 0.");
        AskBack x = new AskBack();
        check.due("status()", x.status(), 0);
        check.due("top()", x.top(), 0);
        check.due("bottom()", x.bottom(), 1);
        for (int script = 0; script < 3; script++) {
            for (int what = 0; what < 4; what++) {
                check.due(x, "count", x.count(script, what), 0, 0);
            }
        }
        for (int what = 0; what < 3; what++) {
            check.due(x, "many(" + what + ")", x.many(what), 0, 0);
        }
        check.refused(x, "a line from an empty tape", x.line(1), 1);
        check.refused(x, "a script from an empty tape", x.script(0, 1), 1);
        check.refused(x, "back()", x.back(), 6);
        check.due("feed", x.feed(0, 0, 0, 0, 0), 20);
        holds("`int status()`: STATUS of the latest call that has one.");
        x.mark();
        check.due("status()", x.status(), 0);
        x.begin(3);
        check.due("status()", x.status(), 1);
        x.top();
        x.bottom();
        x.feed(0, 0, 0, 0, 0);
        x.fault(0);
        x.fault(7);
        check.due("status() behind calls without one", x.status(), 1);
        x.begin(2);
        check.due("status()", x.status(), 0);
        holds("`long top()`: The top of the FRACTION told latest.");
        check.due("top() of a new object", new AskBack().top(), 0);
        holds("`long bottom()`: Its bottom, above 0.");
        check.due("bottom() of a new object", new AskBack().bottom(), 1);
    }

    private void trays() {
        holds("TRAYS 0 to 3 are MISSING at first,");
        AskBack x = new AskBack();
        for (int tray = 0; tray < 4; tray++) {
            check.refused(x, "read of tray " + tray, x.read(tray, 0), 2);
            check.due(x, "write to tray " + tray, x.write(tray, 0, 1), 2);
            check.due(x, "pour of tray " + tray, x.pour(tray, 0, tray, 0, 0), 2);
        }
        for (int tray = 0; tray < 4; tray++) {
            check.due(x, "tray " + tray, x.tray(tray, 0, 1), 0);
            check.due(x, "read of tray " + tray, x.read(tray, 0), 0, 0);
        }
        for (int tray : new int[] {-1, 4, FAR[0], FAR[3]}) {
            check.due(x, "tray " + tray, x.tray(tray, 0, 1), 1);
            check.refused(x, "read of tray " + tray, x.read(tray, 0), 1);
            check.due(x, "write to tray " + tray, x.write(tray, 0, 1), 1);
        }
    }

    private void sizesOfTrays() {
        holds("or rows of 0 to 60 numbers");
        AskBack x = new AskBack();
        for (int many : new int[] {-1, 61, FAR[0], FAR[3]}) {
            check.due(x, "tray of " + many, x.tray(1, 0, many), 1);
            check.refused(x, "it is missing yet", x.read(1, 0), 2);
        }
        for (int many : new int[] {0, 1, 59, 60}) {
            check.due(x, "tray of " + many, x.tray(1, 3, many), 0);
            check.refused(x, "read ahead of the first", x.read(1, -1), 3);
            check.refused(x, "read behind the last", x.read(1, many), 3);
            for (int place = 0; place < many; place++) {
                check.due(x, "read", x.read(1, place), 0, 0);
                check.due(x, "write", x.write(1, place, place + 7), 0);
            }
        }
        check.due("the last of 60", x.read(1, 59), 66);
        holds("`boolean tray(int tray, int sort, int many)`: A TRAY is a row of so many 0s (1).");
        check.due(x, "a tray made anew", x.tray(1, 3, 60), 0);
        for (int place = 0; place < 60; place++) {
            check.due("all are 0 again", x.read(1, place), 0);
        }
        x.write(1, 0, 5);
        check.due(x, "a tray that can't be", x.tray(1, 3, 61), 1);
        check.due(x, "a sort that can't be", x.tray(1, 4, 60), 1);
        check.due("the old one stays", x.read(1, 0), 5);
    }

    private void sorts() {
        holds("of 8 bits (sort 0), 16 (1), 32 (2) or 64 (3).");
        AskBack x = new AskBack();
        for (int sort : new int[] {-1, 4, FAR[0], FAR[3]}) {
            check.due(x, "sort " + sort, x.tray(0, sort, 1), 1);
        }
        check.refused(x, "it is missing yet", x.read(0, 0), 2);
        for (int sort = 0; sort < 4; sort++) {
            int bits = 8 << sort;
            long most = (1L << bits - 1) - 1;
            check.due(x, "sort " + sort, x.tray(0, sort, 1), 0);
            kept(x, 0, 0);
            kept(x, most, most);
            kept(x, -most - 1, -most - 1);
            kept(x, -1, -1);
            if (sort < 3) {
                kept(x, most + 1, -most - 1);
                kept(x, -most - 2, most);
                kept(x, 1L << bits, 0);
                kept(x, (1L << bits) - 1, -1);
                kept(x, (1L << bits) + 1, 1);
                kept(x, Long.MAX_VALUE, -1);
                kept(x, Long.MIN_VALUE, 0);
            }
        }
    }

    private void kept(AskBack x, long number, long as) {
        check.due(x, "write of " + number, x.write(0, 0, number), 0);
        check.due(x, "read of " + number, x.read(0, 0), as, 0);
    }

    private void writesAndReads() {
        holds("`boolean write(int tray, int place, long v)`: A number comes to a place of a TRAY, cut to its sort (1, 2, 3).");
        AskBack x = new AskBack();
        check.due(x, "no tray comes first", x.write(4, -1, 1), 1);
        check.due(x, "a missing one comes before its place", x.write(3, -1, 1), 2);
        x.tray(3, 1, 3);
        for (int place : new int[] {-1, 3, FAR[0], FAR[3]}) {
            check.due(x, "write to place " + place, x.write(3, place, 9), 3);
        }
        check.due(x, "write to the first", x.write(3, 0, 65536 + 5), 0);
        check.due(x, "write to the last", x.write(3, 2, 6), 0);
        holds("`long read(int tray, int place)`: The number in a place of a TRAY; STATUS tells NONE from -1 (1, 2, 3).");
        check.refused(x, "no tray comes first", x.read(-1, -1), 1);
        check.refused(x, "a missing one comes before its place", x.read(0, -1), 2);
        for (int place : new int[] {-1, 3, FAR[0], FAR[3]}) {
            check.refused(x, "read of place " + place, x.read(3, place), 3);
        }
        check.due(x, "the first", x.read(3, 0), 5, 0);
        check.due(x, "the middle is as it was", x.read(3, 1), 0, 0);
        check.due(x, "the last", x.read(3, 2), 6, 0);
        x.write(3, 1, -1);
        check.due(x, "a -1 that is there", x.read(3, 1), -1, 0);
    }

    private void pours() {
        holds("`boolean pour(int from, int place, int to, int at, int many)`: So many numbers of a TRAY, from a place on, come"
                + " to another one's (or its own) place on, as they were");
        AskBack x = new AskBack();
        Check.fill(x, 0, 1, 2, 3, 4);
        Check.fill(x, 1, 5, 6, 7);
        check.due(x, "all that fit", x.pour(0, 1, 1, 0, 3), 0);
        row(x, 1, 2, 3, 4);
        row(x, 0, 1, 2, 3, 4);
        check.due(x, "the last alone", x.pour(1, 2, 0, 3, 1), 0);
        row(x, 0, 1, 2, 3, 4);
        check.due(x, "none at all", x.pour(0, 0, 1, 0, 0), 0);
        check.due(x, "none, from behind the last", x.pour(0, 4, 1, 3, 0), 0);
        row(x, 1, 2, 3, 4);
        check.due(x, "its own, one on", x.pour(0, 0, 0, 1, 3), 0);
        row(x, 0, 1, 1, 2, 3);
        check.due(x, "its own, one back", x.pour(0, 1, 0, 0, 3), 0);
        row(x, 0, 1, 2, 3, 3);
        check.due(x, "its own, all to the same", x.pour(0, 0, 0, 0, 4), 0);
        row(x, 0, 1, 2, 3, 3);
        x.tray(2, 3, 60);
        x.tray(3, 3, 60);
        x.write(2, 0, Long.MIN_VALUE);
        x.write(2, 59, Long.MAX_VALUE);
        check.due(x, "sixty", x.pour(2, 0, 3, 0, 60), 0);
        check.due("the first of sixty", x.read(3, 0), Long.MIN_VALUE);
        check.due("the last of sixty", x.read(3, 59), Long.MAX_VALUE);
    }

    private void row(AskBack x, int tray, long... want) {
        for (int i = 0; i < want.length; i++) {
            check.due("read(" + tray + ", " + i + ")", x.read(tray, i), want[i]);
        }
    }

    private void poursInOrder() {
        holds("(1: below 0, too; 2; 8; 3; asked in this order).");
        AskBack x = new AskBack();
        x.tray(1, 0, 3);
        x.tray(2, 1, 3);
        x.tray(3, 0, 2);
        int[][] numbers = {{-1, 0, 1, 0, 1}, {4, 0, 1, 0, 1}, {1, 0, -1, 0, 1}, {1, 0, 4, 0, 1}, {0, -1, 1, 0, 1},
            {0, 0, 1, -1, 1}, {0, 0, 1, 0, -1}, {1, -1, 2, 0, 1}, {1, 0, 2, -1, 1}, {1, 0, 2, 0, -1}, {1, -1, 3, 9, 9},
            {FAR[0], 0, 1, 0, 1}, {1, FAR[0], 1, 0, 1}, {1, 0, 1, FAR[0], 1}, {1, 0, 1, 0, FAR[0]}};
        poursRefused(x, numbers, 1);
        poursRefused(x, new int[][] {{0, 0, 1, 0, 1}, {1, 0, 0, 0, 1}, {0, 9, 2, 9, 9}, {2, 9, 0, 9, 9}, {0, 0, 0, 0, 0}}, 2);
        poursRefused(x, new int[][] {{1, 0, 2, 0, 1}, {2, 0, 1, 0, 1}, {1, 9, 2, 9, 9}, {1, 0, 2, 0, 0}}, 8);
        poursRefused(x, new int[][] {{1, 0, 3, 0, 3}, {3, 0, 1, 0, 3}, {1, 3, 3, 0, 1}, {1, 0, 3, 2, 1}, {1, 2, 3, 0, 2},
            {1, 0, 3, 1, 2}, {1, 4, 3, 0, 0}, {1, 0, 3, 3, 0}, {1, FAR[3], 3, 0, FAR[3]}, {1, 0, 3, FAR[3], FAR[3]},
            {1, 1, 3, 0, FAR[3]}, {1, FAR[3], 3, 0, 1}}, 3);
    }

    private void poursRefused(AskBack x, int[][] calls, int status) {
        for (int[] c : calls) {
            check.due(x, "pour" + java.util.Arrays.toString(c), x.pour(c[0], c[1], c[2], c[3], c[4]), status);
        }
    }

    private void words() {
        holds("A WORD is 1 to 8 small letters; as a number 5 bits a letter (a 1 to z 26, the first letter the highest).");
        AskBack x = with("none a;", "a z zz aaaaaaaa zzzzzzzz azbycxdw");
        long[] want = {1, 26, 0b11010_11010,
            0b00001_00001_00001_00001_00001_00001_00001_00001L,
            0b11010_11010_11010_11010_11010_11010_11010_11010L,
            0b00001_11010_00010_11001_00011_11000_00100_10111L};
        for (int k = 0; k < want.length; k++) {
            check.due(x, "word " + k, x.word(0, k), want[k], 0);
        }
        for (int letters = 1; letters <= 8; letters++) {
            for (int place = 0; place < letters; place++) {
                long others = Check.word("mmmmmmmm".substring(0, letters)) & ~(31L << 5 * place);
                for (long letter = 0; letter < 32; letter++) {
                    boolean is = letter >= 1 && letter <= 26 || letter == 0 && place == letters - 1 && letters > 1;
                    isWord(others | letter << 5 * place, is);
                }
            }
        }
        long[] none = {0, -1, 32, 1L << 40, 1L << 41, Check.word("aaaaaaaaa"), 1L << 40 | Check.word("aaaaaaaa"),
            1L << 45 | 33, 1L << 60 | 1, 1L << 63 | 1, Long.MIN_VALUE, Long.MAX_VALUE};
        for (long number : none) {
            isWord(number, false);
        }
    }

    /** Whether each call that takes a word takes this one. */
    private void isWord(long number, boolean is) {
        AskBack x = new AskBack();
        check.due(x, "turned of " + number, x.turned(0, number), is ? number : -1, is ? 0 : 1);
        check.due(x, "heard of " + number, x.heard(number), is ? 0 : -1, is ? 0 : 1);
        check.due(x, "broken of " + number + " and a", x.broken(number, 1), is ? 1 : -1, is ? 0 : 1);
        check.due(x, "broken of a and " + number, x.broken(1, number), is ? 2 : -1, is ? 0 : 1);
    }

    private void linesOfWords() {
        holds("LINES, at most 16, numbered as they come, have 0 to 12 WORDS.");
        AskBack x = new AskBack();
        for (int i = 0; i < 16; i++) {
            int words = i % 13;
            check.due(x, "line " + i, Check.line(x, "ab ".repeat(words)), i, 0);
            check.due(x, "its words", x.word(i, -1), words, 0);
            check.due("many(0)", x.many(0), i + 1);
        }
        check.refused(x, "a 17th line", Check.line(x, "ab"), 4);
        check.due("many(0)", x.many(0), 16);
        check.due("the first line is as it was", x.word(0, -1), 0);
        check.due("the last line is as it was", x.word(15, -1), 2);
    }

    private void bytesOfLines() {
        holds("A LINE is a TEXT of at most 120 bytes:");
        AskBack x = new AskBack();
        Check.feed(x, "a".concat(" ".repeat(118)).concat("b!"));
        check.refused(x, "121 bytes", x.line(121), 1);
        check.due(x, "120 bytes", x.line(120), 0, 0);
        check.due("the words of 120 bytes", x.word(0, -1), 2);
        check.due("the last byte is a word", x.word(0, 1), 2);
        check.due(x, "no bytes", x.line(0), 1, 0);
        check.due("its words", x.word(1, -1), 0);
        Check.feed(x, "abcdefgh ".repeat(11).concat("abcdefgh             "));
        check.due(x, "the longest words", x.line(120), 2, 0);
        check.due("their number", x.word(2, -1), 12);
        check.due("the last of them", x.word(2, 11), Check.word("abcdefgh"));
    }

    private void blanks() {
        holds("WORDS with blanks (10, 32) between.");
        AskBack x = with("", "\n a \n\n b  \n", " ", "\n");
        check.due("words", x.word(0, -1), 2);
        check.due("words of a blank", x.word(1, -1), 0);
        check.due("words of a line's end", x.word(2, -1), 0);
        holds("1 what is no small letter and no blank.");
        for (int sign = 0; sign < 256; sign++) {
            AskBack y = new AskBack();
            boolean letter = sign >= 97 && sign <= 122;
            boolean blank = sign == 10 || sign == 32;
            String text = "a" + (char) sign + "b";
            check.due(y, "a line with byte " + sign, Check.line(y, text), letter || blank ? 0 : -1, letter || blank ? 0 : 9);
            check.due("its fault", y.fault(0), letter || blank ? 0 : 1);
            check.due("its place", y.fault(1), letter || blank ? -1 : 1);
            check.due("its words", y.word(0, -1), letter ? 1 : blank ? 2 : -1);
        }
        faulty("!", 1, 0);
        faulty(" ".repeat(119) + "!", 1, 119);
    }

    private void faulty(String text, int kind, int place) {
        AskBack x = new AskBack();
        check.refused(x, "line '" + text + "'", Check.line(x, text), 9);
        check.due("fault(0) of '" + text + "'", x.fault(0), kind);
        check.due("fault(1) of '" + text + "'", x.fault(1), place);
        check.due("no line more", x.many(0), 0);
        check.due("the tape is empty", x.feed(0, 0, 0, 0, 0), 20);
    }

    private void firstFaults() {
        holds("FAULTS of it, the first along the text:");
        faulty("! abcdefghi", 1, 0);
        faulty("abcdefghi !", 2, 0);
        faulty("abcdefghi!", 2, 0);
        faulty("abcdefgh!i", 1, 8);
        faulty("a a a a a a a a a a a a ! a", 1, 24);
        faulty("a a a a a a a a a a a a a !", 3, 24);
        faulty("a a a a a a a a a a a a a!", 3, 24);
        faulty("a a a a a a a a a a a a a abcdefghi", 3, 24);
        faulty("a a a a a a a a a a a abcdefghi a", 2, 22);
        // of one word the least kind, as a script's faults are told
        faulty("a a a a a a a a a a a a abcdefghi", 2, 24);
    }

    private void longWords() {
        holds("2 a WORD of 9 letters and more (at its first).");
        AskBack x = new AskBack();
        check.due(x, "8 letters", Check.line(x, "abcdefgh"), 0, 0);
        for (int letters = 9; letters <= 120; letters++) {
            faulty("a".repeat(letters), 2, 0);
        }
        faulty("a abcdefghi", 2, 2);
        faulty("abcdefgh\nabcdefghi", 2, 9);
        check.due(x, "8 and 8 letters", Check.line(x, "abcdefgh\nabcdefgh"), 1, 0);
    }

    private void thirteenthWord() {
        holds("3 a 13th WORD (at its first).");
        AskBack x = new AskBack();
        check.due(x, "12 words", Check.line(x, "a b c d e f g h i j k l "), 0, 0);
        faulty("a b c d e f g h i j k l m", 3, 24);
        faulty("a b c d e f g h i j k l mn o", 3, 24);
        faulty("a\n".repeat(60), 3, 24);
    }

    private void tape() {
        holds("`int feed(int a, int b, int c, int d, int e)`: Twenty bytes come behind those on the tape, the highest of each"
                + " int first: how many it has; NONE if there would be more than 600.");
        AskBack x = new AskBack();
        x.begin(3);
        for (int i = 1; i <= 30; i++) {
            int sign = 0x20 << 24 | 0x20 << 16 | 0x20 << 8;
            check.due("feed " + i, x.feed(sign | 'a', sign | 'b', sign | 'c', sign | 'd', sign | 'e'), 20 * i);
        }
        for (int i = 0; i < 3; i++) {
            check.due("feed of a full tape", x.feed(0, 0, 0, 0, 0), -1);
        }
        check.due("status() has nothing of it", x.status(), 1);
        check.refused(x, "a line of 120 has too many words", x.line(120), 9);
        check.due("the thirteenth word is behind 3 blanks", x.fault(1), 51);
        check.due("feed", x.feed(0x61626364, 0x65666768, 0x20696a6b, 0x6c0a6d6e, 0x20202020), 20);
        check.due(x, "the first 16 bytes", x.line(16), 0, 0);
        long[] want = {Check.word("abcdefgh"), Check.word("ijkl"), Check.word("mn")};
        for (int k = 0; k < 3; k++) {
            check.due("word " + k, x.word(0, k), want[k]);
        }
        check.due("feed of bytes above 127", x.feed(-1, -1, -1, -1, -1), 20);
        check.refused(x, "they are no letters", x.line(1), 9);
    }

    private void lineCalls() {
        holds("`int line(int n)`: The first n bytes of the tape (which is empty then) are a LINE more: its number");
        AskBack x = new AskBack();
        Check.feed(x, "ab!");
        check.due(x, "the first 2 of 20", x.line(2), 0, 0);
        check.due("its words", x.word(0, -1), 1);
        check.refused(x, "the tape is empty then", x.line(1), 1);
        check.due(x, "but has a line of none", x.line(0), 1, 0);
        Check.feed(x, "ab!");
        check.due(x, "none of 20", x.line(0), 2, 0);
        check.due("the tape is empty then, too", x.feed(0, 0, 0, 0, 0), 20);
        holds("(1: n below 0, or more than the tape has, or above 120; 9; 4: behind a FAULT).");
        Check.feed(x, " ".repeat(100));
        for (int n : new int[] {-1, 121, 601, FAR[0], FAR[3]}) {
            check.refused(x, "line(" + n + ") of 120 bytes", x.line(n), 1);
        }
        AskBack y = new AskBack();
        Check.feed(y, " ");
        check.refused(y, "line(21) of 20 bytes", y.line(21), 1);
        check.due("the tape stays", y.feed(0, 0, 0, 0, 0), 40);
        check.due("no fault is told", y.fault(0), -1);
    }

    private void lineCallsInOrder() {
        holds("9; 4: behind a FAULT).");
        AskBack x = new AskBack();
        for (int i = 0; i < 16; i++) {
            x.line(0);
        }
        Check.feed(x, "ab!");
        check.refused(x, "too many bytes come first", x.line(21), 1);
        check.refused(x, "a 17th line without a fault", x.line(2), 4);
        check.due("it has none", x.fault(0), 0);
        check.due("nor a place of it", x.fault(1), -1);
        check.refused(x, "a fault comes ahead of that", x.line(3), 9);
        check.due("the fault", x.fault(0), 1);
        check.due("its place", x.fault(1), 2);
        check.refused(x, "a 17th line of no words", x.line(0), 4);
        check.due("many(0)", x.many(0), 16);
    }

    private void faults() {
        holds("`int fault(int what)`: Of the latest line() or script() with STATUS 0, 4 or 9, what 0: the FAULT (0 without"
                + " one), 1: its place (NONE without). NONE for others, and ahead of any.");
        AskBack x = new AskBack();
        faultIs(x, -1, -1);
        x.line(-1);
        x.script(3, 0);
        faultIs(x, -1, -1);
        Check.line(x, "a !");
        faultIs(x, 1, 2);
        heard(x, "a");
        faultIs(x, 0, -1);
        Check.script(x, 0, "none go a;");
        faultIs(x, 6, 8);
        x.line(1);
        x.script(0, 1);
        x.script(-1, 0);
        faultIs(x, 6, 8);
        given(x, 0, "none a;");
        faultIs(x, 0, -1);
        for (int i = 0; i < 15; i++) {
            x.line(0);
        }
        Check.line(x, "!");
        faultIs(x, 1, 0);
        x.line(0);
        check.due("a 17th line", x.status(), 4);
        faultIs(x, 0, -1);
        for (int what : new int[] {-1, 2, FAR[0], FAR[3]}) {
            check.due("fault(" + what + ")", x.fault(what), -1);
        }
        check.due("fault() has no status", x.status(), 4);
    }

    private void faultIs(AskBack x, int kind, int place) {
        check.due("fault(0)", x.fault(0), kind);
        check.due("fault(1)", x.fault(1), place);
    }

    private void howMany() {
        holds("`int many(int what)`: How many LINES there are (what 0), BROKEN couples (1), sayings of the latest TALK (2)"
                + " (1).");
        AskBack x = with("", "a", "b");
        x.broken(1, 2);
        x.tray(0, 0, 15);
        x.talk(0, 0, 15);
        check.due(x, "many(0)", x.many(0), 2, 0);
        check.due(x, "many(1)", x.many(1), 1, 0);
        check.due(x, "many(2)", x.many(2), 15, 0);
        for (int what : new int[] {-1, 3, FAR[0], FAR[3]}) {
            check.refused(x, "many(" + what + ")", x.many(what), 1);
        }
    }

    private void wordsOfLines() {
        holds("`long word(int line, int k)`: WORD k of a LINE, as a number; k NONE: how many it has (1; 6: none such).");
        AskBack x = with("", "a b", "");
        check.due(x, "word(0, 0)", x.word(0, 0), 1, 0);
        check.due(x, "word(0, 1)", x.word(0, 1), 2, 0);
        check.due(x, "word(0, -1)", x.word(0, -1), 2, 0);
        check.due(x, "word(1, -1)", x.word(1, -1), 0, 0);
        for (int k : new int[] {2, 11, 12, FAR[3]}) {
            check.refused(x, "word(0, " + k + ")", x.word(0, k), 6);
        }
        check.refused(x, "word(1, 0)", x.word(1, 0), 6);
        for (int k : new int[] {-2, FAR[0]}) {
            check.refused(x, "word(0, " + k + ")", x.word(0, k), 1);
        }
        for (int line : new int[] {-1, 2, 16, FAR[0], FAR[3]}) {
            check.refused(x, "word(" + line + ", 0)", x.word(line, 0), 1);
            check.refused(x, "word(" + line + ", 9)", x.word(line, 9), 1);
        }
    }
}
