import java.io.IOException;
import java.nio.file.Path;

/** Each sentence of the document that names a boundary case has a test of its own; no sentence is left out. */
public final class BoundsTest {
    public static void main(String[] args) throws IOException {
        Sentences sentences = new Sentences(new Document(Path.of("../shared/DOC.md")));
        new TermsBounds(sentences).all();
        new RoundBounds(sentences).all();
        new ActsBounds(sentences).all();
        new TextBounds(sentences).all();
        new HistoryBounds(sentences).all();
        new TellsBounds(sentences).all();
        new OutlookBounds(sentences).all();
        sentences.end();
    }
}
