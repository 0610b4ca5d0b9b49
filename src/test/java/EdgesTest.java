import java.io.IOException;
import java.nio.file.Path;

/**
 * The edges of all 28 promises and of the Terms, each under the sentence that names it. The document is the second
 * argument: a sentence that it does not have is wrong, and so is one of the document that no test names.
 */
public final class EdgesTest {
    public static void main(String[] args) throws IOException {
        Document.read(Path.of(args[1]));
        EdgesOfTerms.all();
        EdgesOfRows.all();
        EdgesOfTexts.all();
        EdgesOfActs.all();
        EdgesOfForetold.all();
        EdgesOfSearches.all();
        EdgesOfAsks.all();
        EdgesOfLongUse.all();
        Due.is("promises of the document", Document.promises(), 28);
        String unnamed = Document.unnamed();
        Due.is("sentences that no test names:" + unnamed, unnamed.isEmpty() ? 0 : 1, 0);
        Due.end("EdgesTest");
    }
}
