import java.io.ByteArrayOutputStream;
import java.io.IOException;
import java.io.PrintStream;
import java.lang.reflect.Method;
import java.lang.reflect.Modifier;
import java.net.URL;
import java.net.URLClassLoader;
import java.nio.file.Files;
import java.nio.file.Path;
import java.util.regex.Matcher;
import java.util.regex.Pattern;
import javax.tools.JavaCompiler;
import javax.tools.ToolProvider;

/** README.md holds: its program compiles and prints what the page says, and the page names every call and every test. */
public final class ReadmeTest {
    public static void main(String[] args) throws Exception {
        Check check = new Check();
        String page = Files.readString(Path.of("README.md"));
        check.same("what the page's program prints", run(block(page, "java")), block(page, "text"));
        namesCalls(check, page);
        namesTests(check, page);
        namesStatus(check, page);
        check.end();
    }

    /** The first block of its kind. */
    private static String block(String page, String kind) {
        Matcher m = Pattern.compile("(?s)```" + kind + "\n(.*?)```").matcher(page);
        return m.find() ? m.group(1) : "";
    }

    private static String run(String program) throws Exception {
        Path out = Files.createTempDirectory("readme");
        Path source = out.resolve("Mother.java");
        Files.writeString(source, program);
        JavaCompiler compiler = ToolProvider.getSystemJavaCompiler();
        int refused = compiler.run(null, null, null, "-Xlint:all", "-Werror", "-cp",
                System.getProperty("java.class.path"), "-d", out.toString(), source.toString());
        String printed = refused == 0 ? printedBy(out) : "nothing: it does not compile";
        for (String name : new String[] {"Mother.java", "Mother.class"}) {
            Files.deleteIfExists(out.resolve(name));
        }
        Files.delete(out);
        return printed;
    }

    private static String printedBy(Path classes) throws Exception {
        ByteArrayOutputStream bytes = new ByteArrayOutputStream();
        PrintStream before = System.out;
        try (URLClassLoader loader = new URLClassLoader(new URL[] {classes.toUri().toURL()})) {
            System.setOut(new PrintStream(bytes, true));
            loader.loadClass("Mother").getMethod("main", String[].class).invoke(null, (Object) new String[0]);
        } finally {
            System.setOut(before);
        }
        return bytes.toString().replace(System.lineSeparator(), "\n");
    }

    /** In the table of calls, each with as many arguments as it takes. */
    private static void namesCalls(Check check, String page) {
        for (Method m : AskBack.class.getDeclaredMethods()) {
            if (Modifier.isPublic(m.getModifiers())) {
                String arguments = "\\w+(, \\w+){" + Math.max(0, m.getParameterCount() - 1) + "}";
                String call = "`" + m.getName() + "\\(" + (m.getParameterCount() == 0 ? "" : arguments) + "\\)`";
                check.due("the page has " + m.getName(), Pattern.compile(call).matcher(page).find(), true);
            }
        }
    }

    private static void namesTests(Check check, String page) throws IOException {
        try (var files = Files.list(Path.of("src/test/java"))) {
            for (Path file : (Iterable<Path>) files::iterator) {
                String name = file.getFileName().toString().replace(".java", "");
                if (name.endsWith("Test")) {
                    check.due("the page has " + name, page.contains("`" + name + "`"), true);
                }
            }
        }
        check.due("the page tells how all tests are run", page.contains("\n.ci/run\n"), true);
    }

    private static void namesStatus(Check check, String page) {
        for (int status : new int[] {0, 1, 2, 3, 4, 6, 8, 9}) {
            check.due("the page has STATUS " + status, page.contains("\n| " + status + " | "), true);
        }
    }
}
