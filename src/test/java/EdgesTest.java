import java.nio.file.Files;
import java.nio.file.Path;

/** One test for each sentence of the document that names an edge; each quotes its sentence. */
public final class EdgesTest extends Checks {
    private static final Path DOCUMENT = Path.of("../shared/DOC.md");

    public static void main(String[] args) throws Exception {
        EdgesOfChip.all();
        EdgesOfPasses.all();
        EdgesOfTelling.all();
        everyPromiseIsQuoted();
        quotesStandInTheDocument();
        close("EdgesTest");
    }

    private static void everyPromiseIsQuoted() {
        for (promise = 1; promise <= 36; promise++) {
            String head = promise + " ";
            due("a sentence of its own", QUOTED.stream().anyMatch(one -> one.startsWith(head)), true);
        }
    }

    private static void quotesStandInTheDocument() throws Exception {
        if (!Files.isReadable(DOCUMENT)) {
            System.out.println("EdgesTest: there is no document to look the sentences up in");
            return;
        }
        String document = Files.readString(DOCUMENT).replaceAll("\\s+", " ");
        for (String quote : QUOTED) {
            String words = quote.substring(quote.indexOf(' ') + 1).replaceAll("\\s+", " ");
            due("in the document: " + quote, document.contains(words), true);
        }
    }
}
