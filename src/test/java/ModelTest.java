import java.lang.reflect.Method;
import java.util.ArrayList;
import java.util.Collections;
import java.util.HashMap;
import java.util.List;
import java.util.Map;
import java.util.Random;
import java.util.TreeMap;

/** Runs of calls made by chance (the seeds are fixed): the class must answer each of them as the model does. */
public final class ModelTest {
    private static final String[] WORDS = {"a", "b", "c", "d", "my", "your", "i", "you"};
    private static final Map<String, Method> REAL = methods(AskBack.class);
    private static final Map<String, Method> PLAIN = methods(Model.class);
    private static final Map<String, Integer> SEEN = new TreeMap<>();

    private final Random chance;
    private final AskBack real = new AskBack();
    private final Model plain = new Model();
    private final List<String> log = new ArrayList<>();
    private int calls = 0;
    private boolean failed = false;

    private ModelTest(long seed) {
        chance = new Random(seed);
    }

    public static void main(String[] args) throws Exception {
        int runs = args.length > 0 ? Integer.parseInt(args[0]) : 300;
        long seed = args.length > 1 ? Long.parseLong(args[1]) : 1;
        for (int run = 0; run < runs; run++) {
            ModelTest test = new ModelTest(seed + run);
            test.play();
            if (test.failed) {
                System.out.println("seed " + (seed + run));
                System.exit(1);
            }
        }
        if (args.length > 2) {
            System.out.println(SEEN.toString().replace(", ", "\n"));
        }
        System.out.println(runs + " runs are as the model's");
    }

    private static Map<String, Method> methods(Class<?> of) {
        Map<String, Method> all = new HashMap<>();
        for (Method m : of.getDeclaredMethods()) {
            all.put(m.getName(), m);
        }
        return all;
    }

    private long call(String name, Object... args) throws Exception {
        if (failed || calls >= 500) {
            return -1;
        }
        calls++;
        Object got = REAL.get(name).invoke(real, args);
        Object want = PLAIN.get(name).invoke(plain, args);
        log.add(name + List.of(args) + " = " + got);
        compare(name, got, want);
        compare("status", real.status(), plain.status());
        compare("top", real.top(), plain.top());
        compare("bottom", real.bottom(), plain.bottom());
        compare("fault(0)", real.fault(0), plain.fault(0));
        compare("fault(1)", real.fault(1), plain.fault(1));
        SEEN.merge(name + " " + real.status() + (got.equals(-1) ? " none" : ""), 1, Integer::sum);
        return got instanceof Boolean b ? (b ? 1 : 0) : ((Number) got).longValue();
    }

    private void compare(String what, Object got, Object want) {
        if (!failed && !got.equals(want)) {
            failed = true;
            for (String row : log) {
                System.out.println(row);
            }
            System.out.println(what + " answered " + got + ", the model " + want);
        }
    }

    private void play() throws Exception {
        for (int script = 0; script < 3; script++) {
            if (chance.nextInt(5) > 0) {
                giveScript(script);
            }
        }
        int lines = 3 + chance.nextInt(8);
        for (int i = 0; i < lines; i++) {
            giveLine();
        }
        for (int tray = 0; tray < 4; tray++) {
            if (!odd(6)) {
                giveTray(tray);
            }
        }
        int couples = chance.nextInt(5);
        for (int i = 0; i < couples; i++) {
            call("broken", anyNumber(), anyNumber());
        }
        for (int i = 0; i < 400 && calls < 500 && !failed; i++) {
            anyCall();
        }
    }

    private boolean odd(int of) {
        return chance.nextInt(of) == 0;
    }

    /** A number from 0 on below one, now and then a bit outside. */
    private int below(int many) {
        if (odd(15)) {
            int[] strange = {-1, -2, many, many + 1, Integer.MAX_VALUE, Integer.MIN_VALUE};
            return strange[chance.nextInt(strange.length)];
        }
        return many > 0 ? chance.nextInt(many) : 0;
    }

    private String anyWord() {
        return WORDS[chance.nextInt(WORDS.length)];
    }

    private long anyNumber() {
        long[] strange = {0, -1, 27, 32, 33, 1L << 40, Long.MAX_VALUE, Long.MIN_VALUE, Model.number("zzzzzzzz"),
            Model.number("zzzzzzzz") + 1, 1024 + 1};
        return odd(12) ? strange[chance.nextInt(strange.length)] : Model.number(anyWord());
    }

    private void give(String text) throws Exception {
        for (int i = 0; i < text.length(); i += 20) {
            int[] v = new int[5];
            for (int k = 0; k < 20; k++) {
                int sign = i + k < text.length() ? text.charAt(i + k) : 0;
                v[k / 4] = v[k / 4] << 8 | sign;
            }
            call("feed", v[0], v[1], v[2], v[3], v[4]);
        }
    }

    private void giveLine() throws Exception {
        StringBuilder text = new StringBuilder();
        int words = odd(6) ? chance.nextInt(14) : 1 + chance.nextInt(7);
        for (int i = 0; i < words; i++) {
            text.append(odd(8) ? "\n " : i == 0 ? "" : " ").append(anyWord());
        }
        String line = odd(12) ? spoiled(text.toString()) : text.toString();
        give(line);
        call("line", odd(40) ? below(121) : line.length());
    }

    private void giveTray(int tray) throws Exception {
        int size = odd(8) ? chance.nextInt(61) : chance.nextInt(12) + 5;
        call("tray", tray, odd(4) ? chance.nextInt(4) : 0, size);
        int lines = real.many(0);
        plain.many(0);
        for (int i = 0; i < Math.min(size, 16); i++) {
            call("write", tray, i, (long) (odd(60) ? below(lines) : chance.nextInt(Math.max(1, lines))));
        }
    }

    private void giveScript(int script) throws Exception {
        String text = odd(10) ? limits() : anyScript();
        for (int i = 0; i < 5 && text.length() > 600; i++) {
            text = anyScript();
        }
        text = text.substring(0, Math.min(600, text.length()));
        text = odd(7) ? spoiled(text) : text;
        give(text);
        call("script", script, odd(40) ? below(600) : text.length());
    }

    private String spoiled(String text) {
        StringBuilder all = new StringBuilder(text);
        String[] put = {"!", "9", "123", "abcdefghi", "say", ";", "*", "go", "or", " 1 ", "\u00e9", "none", "\n", "a"};
        int at = chance.nextInt(text.length() + 1);
        if (odd(2) || at >= text.length()) {
            all.insert(at, put[chance.nextInt(put.length)]);
        } else {
            all.delete(at, Math.min(text.length(), at + 1 + chance.nextInt(4)));
        }
        return all.substring(0, Math.min(all.length(), 600));
    }

    private String anyScript() {
        StringBuilder all = new StringBuilder();
        List<String> names = new ArrayList<>(List.of(WORDS));
        Collections.shuffle(names, chance);
        int keys = odd(10) ? chance.nextInt(9) : 1 + chance.nextInt(5);
        List<String> own = names.subList(0, Math.min(keys, names.size()));
        boolean none = odd(2);
        if (none && odd(2)) {
            all.append("none ").append(answers(0, own, false)).append(';');
            none = false;
        }
        int turns = chance.nextInt(4);
        for (int i = 0; i < turns; i++) {
            all.append("turn ").append(WORDS[i * 2]).append(' ').append(anyWord()).append(odd(2) ? ";" : " ;\n");
        }
        for (String key : own) {
            all.append("key ").append(key).append(" rank ").append(chance.nextInt(odd(3) ? 100 : 3)).append(';');
            int rules = odd(6) ? chance.nextInt(5) : 1 + chance.nextInt(2);
            for (int i = 0; i < rules; i++) {
                rule(all, own);
            }
        }
        if (none) {
            all.append(" none ").append(answers(0, own, false)).append(';');
        }
        return all.toString();
    }

    private void rule(StringBuilder all, List<String> keys) {
        boolean keep = odd(3);
        boolean wide = odd(2);
        all.append(keep ? "keep" : "when").append(wide ? " *" : "");
        int items = odd(5) ? 1 + chance.nextInt(8) : 1 + chance.nextInt(3);
        int gaps = wide ? 1 : 0;
        for (int i = 0; i < items; i++) {
            int which = wide && i + 1 == items ? 0 : chance.nextInt(5);
            gaps += which < 3 ? 1 : 0;
            all.append(which < 2 ? odd(2) ? " *" : "*" : which < 3 ? "?" : " " + anyWord());
        }
        all.append(" say ").append(answers(gaps, keys, keep)).append(';');
    }

    private String answers(int gaps, List<String> keys, boolean keep) {
        StringBuilder all = new StringBuilder();
        int many = keep ? 1 : odd(3) ? 1 + chance.nextInt(4) : 1 + chance.nextInt(2);
        for (int i = 0; i < many; i++) {
            all.append(i > 0 ? " or " : "");
            if (!keep && odd(4) && !keys.isEmpty()) {
                all.append("go ").append(odd(30) ? anyWord() : keys.get(chance.nextInt(keys.size())));
                continue;
            }
            int pieces = odd(6) ? 1 + chance.nextInt(10) : 1 + chance.nextInt(3);
            for (int k = 0; k < pieces; k++) {
                boolean number = gaps > 0 && odd(2);
                all.append(k > 0 ? " " : "").append(number ? "" + (1 + chance.nextInt(gaps)) : anyWord());
            }
        }
        return all.toString();
    }

    /** A script that has just as many of something as may be, or one more. */
    private String limits() {
        StringBuilder all = new StringBuilder();
        int more = chance.nextInt(2);
        switch (chance.nextInt(5)) {
            case 0 -> {
                for (int i = 0; i < 12 + more; i++) {
                    all.append("key ").append((char) ('a' + i)).append(" rank ").append(i).append(";");
                }
                all.append("when * say 1;");
            }
            case 1 -> {
                all.append("key a rank 1;");
                for (int i = 0; i < 24 + more; i++) {
                    all.append(odd(3) ? "keep" : "when").append(odd(2) ? "*" : " b").append(" say b;");
                }
            }
            case 2 -> {
                for (int i = 0; i < 12 + more; i++) {
                    all.append("turn ").append((char) ('a' + i)).append(" b;");
                }
                all.append("key a rank 1; when * say 1;");
            }
            case 3 -> {
                all.append("key a rank 1;when ?");
                for (int i = 1; i < 8 + more; i++) {
                    all.append(odd(2) ? "*" : odd(2) ? "?" : " a");
                }
                all.append("say b 1 or 1 or go a or b;");
            }
            default -> {
                all.append("key a rank 1;when * a * say 1");
                for (int i = 1; i < 10 + more; i++) {
                    all.append(odd(2) ? " 2" : odd(6) ? " 3" : " b");
                }
                all.append(";");
            }
        }
        return all.toString();
    }

    private void anyCall() throws Exception {
        int lines = plain.many(0);
        real.many(0);
        int rules = Math.max(1, real.count(0, 1));
        plain.count(0, 1);
        int script = below(3);
        int tray = below(4);
        switch (chance.nextInt(48)) {
            case 0 -> giveScript(chance.nextInt(3));
            case 1 -> giveLine();
            case 2 -> giveTray(chance.nextInt(4));
            case 3 -> call("write", tray, below(20), odd(2) ? chance.nextLong() : (long) below(lines));
            case 4 -> call("read", tray, below(20));
            case 5 -> call("pour", tray, below(12), below(4), below(12), below(12));
            case 6 -> call("tray", tray, below(4), below(61));
            case 7 -> call("fault", below(2));
            case 8 -> call("many", below(3));
            case 9 -> call("word", below(lines), chance.nextInt(15) - 2);
            case 10 -> call("count", script, below(4));
            case 11 -> call("rule", script, below(rules), below(4));
            case 12, 13 -> call("fit", script, below(rules), below(lines));
            case 14, 15 -> call("gap", chance.nextInt(10) - 1, below(2));
            case 16 -> call("turned", script, anyNumber());
            case 17 -> call("begin", script);
            case 18, 19, 20, 21, 22 -> saying(script, lines);
            case 23 -> call("said", chance.nextInt(14) - 1);
            case 24 -> call("how", below(5));
            case 25 -> call("remembered", script, chance.nextInt(8) - 1, chance.nextInt(15) - 2);
            case 26, 27, 28 -> talking(script, tray);
            case 29 -> call("spoken", chance.nextInt(17) - 1, chance.nextInt(15) - 2);
            case 30 -> leading(script, tray, lines);
            case 31 -> call("led", below(5));
            case 32, 33 -> meeting(script, lines);
            case 34 -> call("broken", anyNumber(), anyNumber());
            case 35 -> call("broke", script, tray, below(16) + 1);
            case 36, 37 -> call("mend", script, tray, below(16) + 1, below(4));
            case 38 -> call("doubt", below(5) + 1);
            case 39 -> call("odds", below(17));
            case 40 -> call("claim", below(4));
            case 41 -> leasting(script, tray);
            case 42, 43 -> ordering(script);
            case 44 -> call("leave", below(10), odd(2));
            case 45 -> call("heard", anyNumber());
            case 46 -> call("mark");
            default -> call("back");
        }
    }

    private void saying(int script, int lines) throws Exception {
        long words = call("say", script, below(lines));
        if (odd(10)) {
            giveSaid(words);
        }
        for (int i = 0; i < 5 && odd(2); i++) {
            call("how", i);
        }
        for (int i = 0; i < 12 && !odd(4); i++) {
            call("said", i);
        }
        for (int i = 0; i < 6 && odd(2) && script >= 0 && script < 3; i++) {
            call("remembered", script, i, -1);
            call("remembered", script, i, chance.nextInt(4));
        }
    }

    /** What was said comes as a line, so that a script can be led to it. */
    private void giveSaid(long words) throws Exception {
        StringBuilder text = new StringBuilder();
        for (int i = 0; i < words; i++) {
            text.append(Check.text(call("said", i))).append(' ');
        }
        give(text.toString());
        call("line", text.length());
    }

    private void talking(int script, int tray) throws Exception {
        call("talk", script, tray, below(15) + 1);
        for (int i = 0; i < 15 && !odd(5); i++) {
            call("spoken", i, -1);
            call("spoken", i, chance.nextInt(3));
        }
    }

    private void leading(int script, int tray, int lines) throws Exception {
        long size = call("lead", script, tray, odd(20) ? below(6) + 1 : below(3) + 1, below(lines));
        for (int i = 0; i < size; i++) {
            call("led", i);
        }
    }

    private void meeting(int script, int lines) throws Exception {
        int other = below(3);
        int line = below(lines);
        long done = call("face", script, other, line, odd(3) ? below(200) + 1 : below(20) + 1);
        call("ring", 0);
        call("ring", 1);
        // once more with just as many sayings as were done, so that a ring closes behind the last one
        call("face", script, other, line, (int) done - (odd(3) ? 1 : 0));
        call("ring", 0);
        call("ring", 1);
    }

    private void leasting(int script, int tray) throws Exception {
        call("least", script, tray, below(15) + 1);
        call("leastSet");
    }

    private void ordering(int script) throws Exception {
        call("orders", script);
        call("ahead", below(5), below(5));
        call("ahead", below(3), below(3));
    }
}
