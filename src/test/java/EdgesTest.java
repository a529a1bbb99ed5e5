import java.io.IOException;
import java.nio.file.Path;

/** Each sentence of the document with a test of its own: the edges it names, on both sides. */
final class EdgesTest {
    public static void main(String[] args) throws IOException {
        Path root = Path.of(args.length > 0 ? args[0] : ".");
        Document.read(root.resolve("../shared/DOC.md"));
        EdgesOfWhole.run(root);
        EdgesOfTerms.run();
        EdgesOfTransactions.run();
        EdgesOfCalls.run();
        EdgesOfAnswers.run();
        EdgesOfPaper.run();
        Document.finish();
        Due.finish("EdgesTest");
    }
}
