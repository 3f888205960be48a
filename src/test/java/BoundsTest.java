import java.io.IOException;
import java.nio.file.Path;

/**
 * Each sentence of the document that names a bound has a test here, named by its section and its very
 * words; a sentence of the terms or the promises that no test names is told. Runs in the project's folder.
 */
public final class BoundsTest {
    public static void main(String[] args) throws IOException {
        Due due = new Due("BoundsTest");
        Document document = new Document(Path.of("../shared/DOC.md"));
        Sentences sentences = new Sentences(due, document);
        BoundsOfTerms.tell(sentences);
        BoundsOfFace.tell(sentences);
        BoundsOfHolders.tell(sentences);
        BoundsOfObjects.tell(sentences);
        BoundsOfBlocks.tell(sentences);
        BoundsOfRoutes.tell(sentences);
        BoundsOfPaths.tell(sentences);
        BoundsOfRelations.tell(sentences);
        for (String promise : document.promises()) {
            sentences.noneLeftOut(promise);
        }
        due.end();
    }
}
