/** What the tests of the document's sentences share: each names a sentence, and then asks at its edges. */
abstract class Edges {
    static final int[] FAR = {Integer.MIN_VALUE, Integer.MIN_VALUE + 1, Integer.MAX_VALUE - 1, Integer.MAX_VALUE};
    final Check check;
    private final Document document;

    Edges(Check check, Document document) {
        this.check = check;
        this.document = document;
    }

    abstract void hold();

    final void holds(String sentence) {
        check.holds(document, sentence);
    }

    /** An object with a script 0 and lines 0, 1 and so on. */
    static AskBack with(String script, String... lines) {
        AskBack x = new AskBack();
        given(x, 0, script);
        for (String line : lines) {
            heard(x, line);
        }
        return x;
    }

    /** A script that is well; a test whose own text is not would ask for something else than it means to. */
    static void given(AskBack x, int script, String text) {
        Check.script(x, script, text);
        if (x.status() != 0) {
            throw new IllegalStateException(text + ": fault " + x.fault(0) + " at " + x.fault(1));
        }
    }

    static void heard(AskBack x, String text) {
        Check.line(x, text);
        if (x.status() != 0) {
            throw new IllegalStateException(text + ": fault " + x.fault(0) + " at " + x.fault(1));
        }
    }

    /** What how() tells, from the kind to the goes; -1 where there is none such. */
    final void told(AskBack x, int... want) {
        for (int what = 0; what < want.length; what++) {
            check.due(x, "how(" + what + ")", x.how(what), want[what], want[what] == -1 ? 6 : 0);
        }
    }

    final void says(AskBack x, int line, String want, int... told) {
        check.says(x, 0, line, want);
        told(x, told);
    }

    final void fraction(AskBack x, int of, long top, long bottom) {
        check.due(x, "odds(" + of + ")", x.odds(of), 0);
        check.due("top() of odds(" + of + ")", x.top(), top);
        check.due("bottom() of odds(" + of + ")", x.bottom(), bottom);
    }

    final void remembers(AskBack x, String... want) {
        check.due(x, "count(0, 3)", x.count(0, 3), want.length, 0);
        for (int k = 0; k < want.length; k++) {
            StringBuilder all = new StringBuilder();
            long words = x.remembered(0, k, -1);
            for (int i = 0; i < words; i++) {
                all.append(i > 0 ? " " : "").append(Check.text(x.remembered(0, k, i)));
            }
            check.same("remembered " + k, all.toString(), want[k]);
        }
    }

    final void spoke(AskBack x, String... want) {
        check.due(x, "many(2)", x.many(2), want.length, 0);
        for (int k = 0; k < want.length; k++) {
            StringBuilder all = new StringBuilder();
            long words = x.spoken(k, -1);
            for (int i = 0; i < words; i++) {
                all.append(i > 0 ? " " : "").append(Check.text(x.spoken(k, i)));
            }
            check.same("spoken " + k, all.toString(), want[k]);
        }
    }

    /** Texts one behind the other. */
    static String joined(int many, java.util.function.IntFunction<String> part) {
        StringBuilder all = new StringBuilder();
        for (int i = 0; i < many; i++) {
            all.append(part.apply(i));
        }
        return all.toString();
    }

    static char letter(int i) {
        return (char) ('a' + i);
    }
}
