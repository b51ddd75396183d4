import java.io.IOException;
import java.nio.file.Files;
import java.nio.file.Path;
import java.util.regex.Matcher;
import java.util.regex.Pattern;

/** The rules of LANGUAGE.md that can be read off the source: what stands nowhere, and how much of it there may be. */
public final class LanguageTest {
    private static final String[] NEVER = {"\\bthrow\\b", "\\bthrows\\b", "\\btry\\b", "\\bcatch\\b",
        "\\bsynchronized\\b", "\\bassert\\b", "\\bimport\\b", "\\bpackage\\b", "->", "::", "\\bprotected\\b",
        "@", "Exact\\b", "\\bequals\\b", "\\bhashCode\\b", "\\btoString\\b", "\\bdouble\\b", "\\bfloat\\b",
        "\\bString\\b", "\"", "\\bObject\\b", "\\bvolatile\\b", "\\btransient\\b", "\\bnative\\b", "\\bvar\\b",
        "\\[\\]\\[\\]\\[\\]", "static\\s*\\{", "\\bgoto\\b", "\\bwhile\\s*\\(true", "for\\s*\\(;;"};
    private static final Pattern METHOD = Pattern.compile(
            "^( +)(?:public |private )?(?:static )?[\\w\\[\\]]+(?: \\w+)?\\(([^()]*)\\) \\{$");

    public static void main(String[] args) throws IOException {
        Check check = new Check();
        String source = Files.readString(Path.of("src/main/java/AskBack.java"));
        String code = source.replaceAll("(?s)/\\*.*?\\*/", "").replaceAll("//[^\n]*", "");
        for (String never : NEVER) {
            check.due("the source has " + never, Pattern.compile(never).matcher(code).find(), false);
        }
        check.due("all signs are 10, 32 to 126", source.matches("[\n -~]*"), true);
        calls(check, code);
        methods(check, code.split("\n"));
        int classes = 0;
        for (Matcher m = Pattern.compile("\\bclass \\w").matcher(code); m.find();) {
            classes++;
        }
        check.due("at most twelve classes", classes <= 12, true);
        check.end();
    }

    /** What is called with a name in front of it is the library's only where that is allowed. */
    private static void calls(Check check, String code) {
        Matcher m = Pattern.compile("\\b([A-Z]\\w*)\\.(\\w+)\\(").matcher(code);
        while (m.find()) {
            String call = m.group(1) + "." + m.group(2);
            boolean own = code.contains("class " + m.group(1) + " ");
            boolean library = call.equals("System.arraycopy") || call.equals("Integer.bitCount");
            check.due(call + " is allowed", own || library, true);
        }
    }

    private static void methods(Check check, String[] rows) {
        int seen = 0;
        for (int i = 0; i < rows.length; i++) {
            Matcher m = METHOD.matcher(rows[i]);
            if (!m.matches() || rows[i].contains(" new ") || rows[i].contains("return ")) {
                continue;
            }
            seen++;
            int end = i;
            while (!rows[end].equals(m.group(1) + "}")) {
                end++;
            }
            check.due("lines of" + rows[i], end - i <= 60, true);
            check.due("parameters of" + rows[i], m.group(2).split(",").length <= 7, true);
        }
        check.due("methods were seen", seen > 100, true);
    }
}
