import java.io.IOException;
import java.nio.file.Files;
import java.nio.file.Path;
import java.util.ArrayList;
import java.util.BitSet;
import java.util.List;

/** The document, and which of its sentences the tests have named. */
final class Document {
    private static final String HEADINGS = "## Promise \\d+: [A-Za-z ]+|## Terms|## The public face|==== \\d\\."
            + "|Ahead of the calls [^.]* the interface says: ---- [A-Z, ]+\\.";
    private final String text;
    private final BitSet named = new BitSet();

    private Document(String text) {
        this.text = text;
    }

    /** All that is promised, without the face (which FaceTest holds), blanks made one. */
    static Document read() throws IOException {
        String all = Files.readString(Path.of("../shared/DOC.md"));
        int from = Math.max(0, all.indexOf("An object is used"));
        int to = all.indexOf("## Not promised");
        String promised = all.substring(from, to < 0 ? all.length() : to);
        return new Document(blanksMadeOne(promised.replaceAll("(?s)```java.*?```", " ")));
    }

    private static String blanksMadeOne(String text) {
        return text.replaceAll("```(text)?", " ").replaceAll("\\s+", " ");
    }

    /** Names a sentence wherever it stands; false if it stands nowhere. */
    boolean names(String sentence) {
        String wanted = blanksMadeOne(sentence);
        int at = text.indexOf(wanted);
        boolean found = at >= 0;
        while (at >= 0) {
            named.set(at, at + wanted.length());
            at = text.indexOf(wanted, at + 1);
        }
        return found;
    }

    /** What no test has named, but for headings. */
    List<String> unnamed() {
        BitSet left = new BitSet();
        left.set(0, text.length());
        left.andNot(named);
        List<String> all = new ArrayList<>();
        for (int from = left.nextSetBit(0); from >= 0;) {
            int to = left.nextClearBit(from);
            String part = text.substring(from, to).replaceAll(HEADINGS, " ");
            if (part.matches("(?s).*[A-Za-z0-9].*")) {
                all.add(part.trim());
            }
            from = left.nextSetBit(to);
        }
        return all;
    }
}
