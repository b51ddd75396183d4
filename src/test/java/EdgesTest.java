import java.io.IOException;

/** Each sentence of the document, at its edges; and that no sentence is left out. */
public final class EdgesTest {
    public static void main(String[] args) throws IOException {
        Check check = new Check();
        Document document = Document.read();
        Edges[] all = {new EdgesOfTexts(check, document), new EdgesOfScripts(check, document),
            new EdgesOfSayings(check, document), new EdgesOfTalks(check, document),
            new EdgesOfSearches(check, document), new EdgesOfStatus(check, document)};
        for (Edges edges : all) {
            edges.hold();
        }
        for (String part : document.unnamed()) {
            System.out.println("no test names '" + part + "'");
            check.due("parts of the document that no test names", 1, 0);
        }
        check.end();
    }
}
