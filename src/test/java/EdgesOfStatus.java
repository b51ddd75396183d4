import java.util.Arrays;
import java.util.Collections;
import java.util.List;
import java.util.function.Supplier;

/** What behind ==== 5 is said of STATUS and of what calls leave as it was, and promises 43 and 44, at their edges. */
final class EdgesOfStatus extends Edges {
    /** A call; what it gives as a number, a boolean as 1 or 0. */
    private interface Call {
        long on(AskBack x);
    }

    EdgesOfStatus(Check check, Document document) {
        super(check, document);
    }

    @Override
    void hold() {
        numbers();
        missing();
        places();
        tooMany();
        noneSuch();
        unlikeAndFaults();
        without();
        onlyWhatIsPromised();
        marks();
        backs();
        scriptsBack();
        fullBack();
        lastCall();
    }

    /** An object in which all that can be seen has been told once. */
    static AskBack furnished() {
        AskBack x = with("turn x y; key a rank 2; keep a * say k 1; when a * say p 1 or q or go b; key b rank 1; when * say b;"
                + " none n or m;", "a x", "q", "c x", "a b c", "p y");
        given(x, 1, "key c rank 1; when * c * say 1 or 2; none c x or z;");
        Check.fill(x, 0, 0, 1, 1, 1, 1);
        x.tray(1, 3, 2);
        x.write(1, 1, -1);
        x.broken(Check.word("p"), Check.word("y"));
        x.mark();
        x.say(0, 0);
        x.say(0, 0);
        x.say(0, 1);
        x.say(0, 1);
        x.say(0, 1);
        x.say(0, 0);
        x.say(1, 1);
        heard(x, "late x");
        x.broken(Check.word("q"), Check.word("q"));
        x.mark();
        x.fit(0, 0, 0);
        x.talk(0, 0, 5);
        x.leave(1, true);
        x.lead(0, 0, 3, 4);
        x.face(0, 1, 0, 200);
        x.least(0, 0, 3);
        x.orders(0);
        x.odds(7);
        Check.line(x, "a !");
        x.say(0, 3);
        Check.feed(x, "none t;");
        // a status other than 0 is there, so that a call that is taken must tell its own
        x.begin(9);
        return x;
    }

    /** A scene that has as many lines, couples and marks as may be, and a script that has too many rules and keys. */
    private static AskBack full() {
        AskBack x = furnished();
        given(x, 2, "none t;");
        for (int i = 0; i < 10; i++) {
            x.line(0);
        }
        for (int i = 0; i < 10; i++) {
            x.broken(1, 1);
        }
        given(x, 2, joined(7, i -> "key " + letter(i) + " rank 1;") + "keep a say b;".repeat(13));
        x.mark();
        Check.feed(x, "none t;");
        return x;
    }

    private void refuse(int status, String name, Call call) {
        refuse(EdgesOfStatus::furnished, status, name, call);
    }

    /** The call is refused, and all that can be seen is as if it had not been. */
    private void refuse(Supplier<AskBack> made, int status, String name, Call call) {
        AskBack x = made.get();
        // another status stands there, so that the call must tell its own
        if (status == 1) {
            x.many(0);
        } else {
            x.begin(9);
        }
        long got = call.on(x);
        check.due("status() behind " + name, x.status(), status);
        check.due(name, got, name.matches("(tray|write|pour|begin|odds|leave).*") ? 0 : -1);
        unchanged(name, made, x, Collections.emptyList());
    }

    private void unchanged(String name, Supplier<AskBack> made, AskBack x, List<String> but) {
        for (String group : Seen.of(made.get()).unlike(Seen.of(x), but)) {
            check.due(name + " changes " + group, 1, 0);
        }
    }

    private static long asNumber(boolean is) {
        return is ? 1 : 0;
    }

    private void numbers() {
        holds("STATUS of a call is the first of these that holds: 1 a number that can't be; no such TRAY, SCRIPT, LINE, RULE, KEY"
                + " (LINES in a TRAY, too).");
        holds("With another STATUS than 0 a call gives NONE, or false, and changes nothing else");
        refuse(1, "tray(4)", x -> asNumber(x.tray(4, 0, 1)));
        refuse(1, "tray(0, 4)", x -> asNumber(x.tray(0, 4, 1)));
        refuse(1, "tray of 61", x -> asNumber(x.tray(0, 0, 61)));
        refuse(1, "tray of -1", x -> asNumber(x.tray(0, 0, -1)));
        refuse(1, "write(4)", x -> asNumber(x.write(4, 9, 7)));
        refuse(1, "read(-1)", x -> x.read(-1, 9));
        refuse(1, "pour(4)", x -> asNumber(x.pour(4, 0, 0, 0, 1)));
        refuse(1, "pour of -1", x -> asNumber(x.pour(0, 0, 2, 0, -1)));
        refuse(1, "line(-1)", x -> x.line(-1));
        refuse(1, "line(21)", x -> x.line(21));
        refuse(1, "script(3)", x -> x.script(3, 7));
        refuse(1, "script(0, -1)", x -> x.script(0, -1));
        refuse(1, "script(0, 21)", x -> x.script(0, 21));
        refuse(1, "many(3)", x -> x.many(3));
        refuse(1, "word(6)", x -> x.word(6, 0));
        refuse(1, "word(0, -2)", x -> x.word(0, -2));
        refuse(1, "count(3)", x -> x.count(3, 0));
        refuse(1, "count(0, 4)", x -> x.count(0, 4));
        refuse(1, "rule(0, 3)", x -> x.rule(0, 3, 0));
        refuse(1, "rule(0, 0, 4)", x -> x.rule(0, 0, 4));
        refuse(1, "fit(0, 3, 0)", x -> x.fit(0, 3, 0));
        refuse(1, "fit(0, 1, 6)", x -> x.fit(0, 1, 6));
        refuse(1, "gap(0, 0)", x -> x.gap(0, 0));
        refuse(1, "gap(1, 2)", x -> x.gap(1, 2));
        refuse(1, "turned(3)", x -> x.turned(3, 1));
        refuse(1, "turned of no word", x -> x.turned(0, 0));
        refuse(1, "begin(3)", x -> asNumber(x.begin(3)));
        refuse(1, "say(3)", x -> x.say(3, 0));
        refuse(1, "say(0, 6)", x -> x.say(0, 6));
        refuse(1, "said(-1)", x -> x.said(-1));
        refuse(1, "how(5)", x -> x.how(5));
        refuse(1, "remembered(0, -1)", x -> x.remembered(0, -1, 0));
        refuse(1, "talk(3)", x -> x.talk(3, 0, 1));
        refuse(1, "talk of 16", x -> x.talk(0, 0, 16));
        refuse(1, "talk with no line", x -> x.talk(0, 1, 2));
        refuse(1, "spoken(0, 12)", x -> x.spoken(0, 12));
        refuse(1, "lead to no line", x -> x.lead(0, 0, 3, 6));
        refuse(1, "lead with no line", x -> x.lead(0, 1, 2, 4));
        refuse(1, "lead of 7", x -> x.lead(0, 0, 7, 4));
        refuse(1, "led(-1)", x -> x.led(-1));
        refuse(1, "face(0, 3)", x -> x.face(0, 3, 0, 9));
        refuse(1, "face of 201", x -> x.face(0, 1, 0, 201));
        refuse(1, "ring(2)", x -> x.ring(2));
        refuse(1, "broken of no word", x -> x.broken(1, 27));
        refuse(1, "broke of 17", x -> x.broke(0, 0, 17));
        refuse(1, "broke with no line", x -> x.broke(0, 1, 2));
        refuse(1, "mend of what 4", x -> x.mend(0, 0, 1, 4));
        refuse(1, "mend with no line", x -> x.mend(0, 1, 2, 0));
        refuse(1, "doubt(0)", x -> x.doubt(0));
        refuse(1, "odds(17)", x -> asNumber(x.odds(17)));
        refuse(1, "claim(4)", x -> x.claim(4));
        refuse(1, "least of 16", x -> x.least(0, 0, 16));
        refuse(1, "least with no line", x -> x.least(0, 1, 2));
        refuse(1, "orders(3)", x -> x.orders(3));
        refuse(1, "ahead(0, 2)", x -> x.ahead(0, 2));
        refuse(1, "ahead(1, 1)", x -> x.ahead(1, 1));
        refuse(1, "leave(5)", x -> asNumber(x.leave(5, true)));
        refuse(1, "heard of no word", x -> x.heard(0));
    }

    private void missing() {
        holds("2 the TRAY is MISSING.");
        refuse(2, "write(2)", x -> asNumber(x.write(2, 0, 7)));
        refuse(2, "read(2)", x -> x.read(2, 0));
        refuse(2, "pour(2)", x -> asNumber(x.pour(2, 0, 0, 0, 1)));
        refuse(2, "pour to 2", x -> asNumber(x.pour(0, 0, 2, 0, 1)));
        refuse(2, "talk(0, 2)", x -> x.talk(0, 2, 1));
        refuse(2, "lead(0, 2)", x -> x.lead(0, 2, 1, 4));
        refuse(2, "broke(0, 2)", x -> x.broke(0, 2, 1));
        refuse(2, "mend(0, 2)", x -> x.mend(0, 2, 1, 0));
        refuse(2, "least(0, 2)", x -> x.least(0, 2, 1));
    }

    private void places() {
        holds("3 a place that the TRAY has not, or too few numbers.");
        refuse(3, "write(0, 5)", x -> asNumber(x.write(0, 5, 7)));
        refuse(3, "write(0, -1)", x -> asNumber(x.write(0, -1, 7)));
        refuse(3, "read(0, 5)", x -> x.read(0, 5));
        refuse(3, "pour of 6", x -> asNumber(x.pour(0, 0, 0, 0, 6)));
        refuse(3, "pour to 5", x -> asNumber(x.pour(0, 0, 0, 1, 5)));
        refuse(3, "talk of 6", x -> x.talk(0, 0, 6));
        refuse(3, "lead of 6", x -> x.lead(0, 0, 6, 4));
        refuse(3, "broke of 6", x -> x.broke(0, 0, 6));
        refuse(3, "mend of 6", x -> x.mend(0, 0, 6, 0));
        refuse(3, "least of 6", x -> x.least(0, 0, 6));
    }

    private void tooMany() {
        holds("4 one too many; too many RULES or KEYS.");
        refuse(EdgesOfStatus::full, 4, "broken", x -> x.broken(1, 2));
        refuse(EdgesOfStatus::full, 4, "mark", AskBack::mark);
        refuse(EdgesOfStatus::full, 4, "least", x -> x.least(2, 0, 1));
        refuse(EdgesOfStatus::full, 4, "orders", x -> x.orders(2));
        // of a 17th line fault() tells that it has none; the tape stays
        AskBack x = full();
        Check.script(x, 1, "!");
        Check.feed(x, "none t;");
        check.refused(x, "a 17th line", x.line(4), 4);
        check.due("fault(0)", x.fault(0), 0);
        check.due("fault(1)", x.fault(1), -1);
        unchanged("a 17th line", EdgesOfStatus::full, x, List.of("fault"));
    }

    private void noneSuch() {
        holds("6 there is none such.");
        refuse(6, "word(1, 1)", x -> x.word(1, 1));
        refuse(6, "gap(2, 0)", x -> x.gap(2, 0));
        refuse(6, "said(9)", x -> x.said(9));
        refuse(6, "remembered(0, 6)", x -> x.remembered(0, 6, 0));
        refuse(6, "remembered(1, 0)", x -> x.remembered(1, 0, -1));
        refuse(6, "spoken(5)", x -> x.spoken(5, -1));
        refuse(6, "lead to what is never said", x -> x.lead(0, 0, 3, 5));
        refuse(6, "led(5)", x -> x.led(5));
        refuse(6, "mend of none broke", x -> x.mend(1, 0, 1, 0));
        refuse(6, "mend without a turn that mends", x -> x.mend(1, 0, 1, 3));
        Supplier<AskBack> bare = AskBack::new;
        refuse(bare, 6, "gap of no fit()", x -> x.gap(1, 0));
        refuse(bare, 6, "said of no say()", x -> x.said(0));
        refuse(bare, 6, "how of no say()", x -> x.how(0));
        refuse(bare, 6, "spoken of no talk", x -> x.spoken(0, -1));
        refuse(bare, 6, "led of no lead", x -> x.led(0));
        refuse(bare, 6, "ring of no face", x -> x.ring(0));
        refuse(bare, 6, "leastSet of no least", AskBack::leastSet);
        refuse(bare, 6, "orders of no talk", x -> x.orders(0));
        refuse(bare, 6, "ahead of no orders", x -> x.ahead(0, 1));
        refuse(bare, 6, "back to no mark", AskBack::back);
    }

    private void unlikeAndFaults() {
        holds("8 TRAYS are of unlike sorts.");
        refuse(8, "pour(0, 0, 1, 0, 1)", x -> asNumber(x.pour(0, 0, 1, 0, 1)));
        refuse(8, "pour(1, 9, 0, 9, 9)", x -> asNumber(x.pour(1, 9, 0, 9, 9)));
        holds("9 a FAULT. 0 else.");
        holds("(but line(), script() with 9 the tape, and what fault() tells).");
        AskBack x = furnished();
        check.refused(x, "a line with a fault", x.line(7), 9);
        check.due("fault(0)", x.fault(0), 1);
        check.due("fault(1)", x.fault(1), 6);
        unchanged("a line with a fault", EdgesOfStatus::furnished, x, List.of("fault", "tape"));
        AskBack y = furnished();
        check.refused(y, "a script with a fault", y.script(0, 6), 9);
        check.due("fault(0)", y.fault(0), 2);
        check.due("fault(1)", y.fault(1), 6);
        unchanged("a script with a fault", EdgesOfStatus::furnished, y, List.of("fault", "tape"));
        AskBack z = furnished();
        z.line(7);
        check.due("the tape is empty behind a line with a fault", z.feed(0, 0, 0, 0, 0), 20);
        AskBack w = furnished();
        w.script(0, 6);
        check.due("the tape is empty behind a script with a fault", w.feed(0, 0, 0, 0, 0), 20);
    }

    private void without() {
        holds("status(), top(), bottom(), feed(), fault() have none.");
        AskBack x = new AskBack();
        x.begin(9);
        x.top();
        x.bottom();
        x.feed(1, 2, 3, 4, 5);
        x.fault(0);
        x.fault(9);
        x.status();
        check.due("status()", x.status(), 1);
        for (int i = 0; i < 30; i++) {
            x.feed(0, 0, 0, 0, 0);
        }
        check.due("status() behind a full tape", x.status(), 1);
        holds("No call but say(), begin(), script(), back() changes the state of a SCRIPT.");
        holds("The constants: `NONE = -1`: None.");
        check.due("NONE", AskBack.NONE, -1);
    }

    /** The call is taken, and all that can be seen is as if it had not been, but for these groups. */
    private void takes(String name, Call call, String... but) {
        leaves(0, name, call, but);
    }

    private void leaves(int status, String name, Call call, String... but) {
        AskBack x = furnished();
        call.on(x);
        check.due("status() behind " + name, x.status(), status);
        unchanged(name, EdgesOfStatus::furnished, x, Arrays.asList(but));
    }

    private void onlyWhatIsPromised() {
        holds("No call but say(), begin(), script(), back() changes the state of a SCRIPT.");
        takes("tray", x -> asNumber(x.tray(0, 1, 3)), "trays");
        takes("write", x -> asNumber(x.write(0, 0, 2)), "trays");
        takes("read", x -> x.read(0, 0));
        takes("pour", x -> asNumber(x.pour(0, 1, 0, 0, 3)), "trays");
        takes("line", x -> x.line(4), "lines", "tape", "fault");
        takes("script", x -> x.script(2, 7), "scripts", "tape", "fault");
        takes("script 0", x -> x.script(0, 7), "scripts", "states", "tape", "fault");
        takes("many", x -> x.many(0) + x.many(1) + x.many(2));
        takes("word", x -> x.word(0, 0));
        takes("count", x -> x.count(0, 0));
        takes("rule", x -> x.rule(0, 0, 0));
        takes("fit with 0", x -> x.fit(0, 0, 1));
        takes("fit with 1", x -> x.fit(1, 0, 2), "gaps");
        takes("gap", x -> x.gap(1, 0));
        takes("turned", x -> x.turned(0, Check.word("x")));
        takes("begin", x -> asNumber(x.begin(0)), "states");
        takes("say", x -> x.say(0, 0), "states", "said");
        takes("said", x -> x.said(0));
        takes("how", x -> x.how(0));
        takes("remembered", x -> x.remembered(0, 0, -1));
        takes("talk", x -> x.talk(1, 0, 3), "talk", "reading", "couples");
        takes("spoken", x -> x.spoken(0, 0));
        takes("lead", x -> x.lead(0, 0, 2, 4), "led");
        takes("led", x -> x.led(0));
        takes("face", x -> x.face(1, 0, 2, 3), "ring");
        takes("ring", x -> x.ring(0));
        takes("broken", x -> x.broken(Check.word("k"), Check.word("y")), "couples");
        takes("broke", x -> x.broke(0, 0, 5));
        takes("mend", x -> x.mend(0, 0, 5, 0) + x.mend(0, 0, 5, 2));
        takes("doubt", x -> x.doubt(1));
        takes("odds", x -> asNumber(x.odds(3)), "fraction");
        takes("claim", x -> x.claim(0) + x.claim(1) + x.claim(2) + x.claim(3));
        takes("least", x -> x.least(1, 0, 5), "least");
        takes("leastSet", AskBack::leastSet);
        takes("orders", x -> x.orders(1), "orders");
        takes("ahead", x -> x.ahead(0, 1));
        takes("leave", x -> asNumber(x.leave(0, true)), "reading");
        takes("heard", x -> x.heard(1));
        takes("mark", AskBack::mark, "marks");
        takes("mark and back", x -> x.mark() + x.back());
        takes("back", AskBack::back, "lines", "couples", "scripts", "states", "marks");
        leaves(1, "feed", x -> x.feed(0, 0, 0, 0, 0), "tape");
        leaves(1, "fault", x -> x.fault(0) + x.fault(1));
        leaves(1, "status, top, bottom", x -> x.status() + x.top() + x.bottom());
    }

    private void marks() {
        holds("`int mark()`: A MARK more: how many there are (4).");
        AskBack x = new AskBack();
        for (int i = 1; i <= 3; i++) {
            check.due(x, "mark " + i, x.mark(), i, 0);
        }
        check.refused(x, "a 4th", x.mark(), 4);
        check.due(x, "back", x.back(), 2, 0);
        check.due(x, "a third again", x.mark(), 3, 0);
        check.refused(x, "a 4th again", x.mark(), 4);
        holds("`int back()`: All is taken back to the latest MARK: how many there are left (6).");
        for (int i = 2; i >= 0; i--) {
            check.due(x, "back", x.back(), i, 0);
        }
        check.refused(x, "no more", x.back(), 6);
        check.due(x, "mark", x.mark(), 1, 0);
        check.due(x, "back", x.back(), 0, 0);
    }

    private void backs() {
        holds("MARKS, at most 3: SCRIPTS with their states, LINES, BROKEN couples are kept as they are; all is taken back to the"
                + " latest MARK, which is gone then.");
        AskBack x = with("key a rank 1; keep a ? say 1; when a * say p or q or o; none n or m or l;", "a b", "q", "a c");
        x.tray(0, 0, 1);
        // three marks, one saying and one of each more between them
        for (int i = 0; i < 3; i++) {
            check.due("mark", x.mark(), i + 1);
            x.say(0, i == 1 ? 2 : 0);
            heard(x, "new" + letter(i));
            x.broken(1, 2 + i);
        }
        remembers(x, "b", "c", "b");
        check.refused(x, "a 4th mark", x.mark(), 4);
        String[][] kept = {{}, {"b"}, {"b", "c"}};
        for (int i = 2; i >= 0; i--) {
            check.due("back", x.back(), i);
            check.due("lines", x.many(0), 3 + i);
            check.due("couples", x.many(1), i);
            check.due("whose turn", x.rule(0, 1, 3), i);
            remembers(x, kept[i]);
            check.refused(x, "a line that is gone", x.word(3 + i, -1), 1);
        }
        says(x, 1, "n", 4, -1, -1, 0, 0);
        // none's turn is taken back, too; what comes behind a mark that is gone is not
        x.mark();
        says(x, 1, "m", 4, -1, -1, 1, 0);
        x.back();
        says(x, 1, "m", 4, -1, -1, 1, 0);
        check.due("the couple is gone", x.many(1), 0);
        Check.line(x, "other");
        check.due("a line in the place of another", x.word(3, 0), Check.word("other"));
        AskBack y = with("none m n;", "q");
        y.tray(0, 0, 1);
        y.broken(Check.word("m"), Check.word("n"));
        y.mark();
        given(y, 0, "none n m;");
        check.due("another script", y.broke(0, 0, 1), -1);
        y.broken(Check.word("n"), Check.word("m"));
        check.due("another couple", y.broke(0, 0, 1), 0);
        y.back();
        check.due("the script and its couple", y.broke(0, 0, 1), 0);
        given(y, 0, "none n m;");
        check.due("the other couple is gone", y.broke(0, 0, 1), -1);
    }

    /** As much of all as there can be comes back: 12 keys, 24 rules, 12 turns, 6 remembered, 16 lines, 12 couples. */
    private void fullBack() {
        String text = joined(12, i -> "turn " + letter(i) + " z;key " + letter(i) + " rank 9;")
                + joined(24, i -> i < 12 ? "keep l say k;" : i == 12 ? "when l say s or t;" : "when l say s;");
        AskBack x = with(text);
        for (int i = 0; i < 16; i++) {
            heard(x, i < 15 ? "l" : "q r s");
        }
        for (int i = 0; i < 12; i++) {
            x.broken(1, 1 + i);
        }
        says(x, 0, "s", 1, 11, 12, 0, 0);
        given(x, 2, "none n or m or o or go a; key a rank 1; when * say p;");
        given(x, 1, "none n or m or o or p q;");
        x.mark();
        given(x, 0, "none n;");
        given(x, 1, "none a a a or b or c or d e f;");
        given(x, 1, "none a a a or b or c or d e f;");
        given(x, 2, "none q;");
        says(x, 0, "n", 4, -1, -1, 0, 0);
        x.back();
        for (String want : new String[] {"n", "m", "o", "p", "n"}) {
            check.says(x, 1, 15, want.equals("p") ? "p q" : want);
            check.says(x, 2, 15, want);
        }
        remembers(x, "k", "k", "k", "k", "k", "k");
        says(x, 0, "t", 1, 11, 12, 1, 0);
        says(x, 15, "k", 3, -1, -1, -1, 0);
        check.due("the last turn", x.turned(0, 12), 26);
        check.due("the last rule's key", x.rule(0, 23, 0), 11);
        check.due("the last line", x.word(15, 2), Check.word("s"));
        check.due("the couples", x.many(1), 12);
        // a search goes on from six remembered, too
        AskBack y = with("key l rank 1;" + "keep l say k;".repeat(6) + "when l say s;", "l", "q", "k", "");
        Check.fill(y, 0, 0, 1);
        check.due(y, "lead to k", y.lead(0, 0, 2, 2), 2, 0);
        check.due(y, "lead to no words", y.lead(0, 0, 2, 3), 1, 0);
        check.due(y, "by q alone", y.led(0), 1, 0);
    }

    /** Scripts of all sizes come back whole, whatever stood in their places. */
    private void scriptsBack() {
        String first = "turn b y; turn c z; key a rank 5; keep * say of 1; when * say 1 a or go c; key b rank 7; when b ? say so 1;"
                + " when * say 1 b; key c rank 3; when * say c 1 x; none n or go b or m;";
        String second = "key b rank 1; when * say w; key d rank 0; key a rank 0; when a say k; turn a a;";
        String third = "turn q r; turn r s; turn s t; key d rank 1; key c rank 9; keep c say c; when c * say c 1 or c or go a;"
                + " key a rank 9; when * say a; when a say b; none z;";
        String[] texts = {first, second, third, ""};
        String[] lines = {"a b", "b c", "a", "c", "q", "c q r s", "b", "d a b", "c a", "a c b"};
        for (String kept : texts) {
            for (String put : texts) {
                AskBack x = with(kept, lines);
                AskBack y = with(kept, lines);
                x.say(0, 0);
                y.say(0, 0);
                x.mark();
                given(x, 0, put);
                x.say(0, 1);
                x.mark();
                given(x, 0, third);
                given(x, 1, kept);
                x.back();
                x.back();
                check.due("the other script is empty again", x.count(1, 0) + x.count(1, 1), 0);
                alike(x, y, lines.length);
            }
        }
    }

    /** Two objects whose scripts 0 must be alike, in their states, too. */
    private void alike(AskBack x, AskBack y, int lines) {
        for (int what = 0; what < 4; what++) {
            check.due("count " + what, x.count(0, what), y.count(0, what));
        }
        for (int rule = 0; rule < 5; rule++) {
            for (int what = 0; what < 4; what++) {
                check.due("rule " + rule + " " + what, x.rule(0, rule, what), y.rule(0, rule, what));
            }
        }
        for (int i = 0; i < 2 * lines; i++) {
            check.same("what is said", Check.said(x, x.say(0, i % lines)), Check.said(y, y.say(0, i % lines)));
            for (int what = 0; what < 5; what++) {
                check.due("how " + what, x.how(what), y.how(what));
            }
        }
        for (int i = 1; i <= 26; i++) {
            check.due("turned", x.turned(0, i), y.turned(0, i));
        }
    }

    private void lastCall() {
        holds("An object is used for at most 512 calls after it has been made; what later calls answer is free.");
        AskBack x = new AskBack();
        Check.feed(x, "none n or m or l;");
        x.script(0, 17);
        x.line(0);
        for (int call = 4; call <= 512; call += 2) {
            check.due("call " + call, x.say(0, 0), 1);
            if (call < 512) {
                check.due("call " + (call + 1), x.said(0), Check.word(call % 6 == 4 ? "n" : call % 6 == 0 ? "m" : "l"));
            }
        }
    }
}
