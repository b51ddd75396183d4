/** What the tests share: answers held against those that are due, and texts put on an object's tape. */
final class Check {
    private int wrong = 0;
    private int asked = 0;
    private String sentence = "";

    /** The sentence of the document that is held by what is asked from here on. */
    void holds(Document document, String held) {
        sentence = "";
        due("the document says '" + held + "'", document.names(held), true);
        sentence = " [" + held + "]";
    }

    void due(String call, long got, long want) {
        asked++;
        if (got != want) {
            wrong++;
            System.out.println(call + " answered " + got + ", due is " + want + sentence);
        }
    }

    void due(String call, boolean got, boolean want) {
        due(call, got ? 1 : 0, want ? 1 : 0);
    }

    /** An answer and the status behind it. */
    void due(AskBack x, String call, long got, long want, int status) {
        due(call, got, want);
        due("status() behind " + call, x.status(), status);
    }

    void due(AskBack x, String call, boolean got, int status) {
        due(x, call, got ? 1 : 0, status == 0 ? 1 : 0, status);
    }

    void refused(AskBack x, String call, long got, int status) {
        due(x, call, got, AskBack.NONE, status);
    }

    void end() {
        System.out.println(wrong == 0 ? asked + " answers are as due" : wrong + " answers are not as due");
        if (wrong != 0) {
            System.exit(1);
        }
    }

    static void feed(AskBack x, String text) {
        for (int i = 0; i < text.length(); i += 20) {
            x.feed(four(text, i), four(text, i + 4), four(text, i + 8), four(text, i + 12), four(text, i + 16));
        }
    }

    private static int four(String text, int from) {
        int all = 0;
        for (int i = from; i < from + 4; i++) {
            all = all << 8 | (i < text.length() ? text.charAt(i) & 255 : 0);
        }
        return all;
    }

    static int line(AskBack x, String text) {
        feed(x, text);
        return x.line(text.length());
    }

    static int script(AskBack x, int script, String text) {
        feed(x, text);
        return x.script(script, text.length());
    }

    /** A tray of bytes with these numbers. */
    static void fill(AskBack x, int tray, int... numbers) {
        x.tray(tray, 0, numbers.length);
        for (int i = 0; i < numbers.length; i++) {
            x.write(tray, i, numbers[i]);
        }
    }

    static long word(String word) {
        long number = 0;
        for (int i = 0; i < word.length(); i++) {
            number = number * 32 + word.charAt(i) - 'a' + 1;
        }
        return number;
    }

    static String text(long word) {
        StringBuilder letters = new StringBuilder();
        for (long rest = word; rest > 0; rest /= 32) {
            letters.insert(0, (char) ('a' + rest % 32 - 1));
        }
        return letters.toString();
    }

    /** What say() said latest, as a text. */
    static String said(AskBack x, int words) {
        StringBuilder all = new StringBuilder();
        for (int i = 0; i < words; i++) {
            all.append(i > 0 ? " " : "").append(text(x.said(i)));
        }
        return all.toString();
    }

    void says(AskBack x, int script, int line, String want) {
        same("say(" + script + ", " + line + ")", said(x, x.say(script, line)), want);
    }

    void same(String what, String got, String want) {
        asked++;
        if (!got.equals(want)) {
            wrong++;
            System.out.println(what + " is '" + got + "', due is '" + want + "'" + sentence);
        }
    }
}
