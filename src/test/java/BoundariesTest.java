import java.io.IOException;

/**
 * Each sentence of the document that names an edge (too small, too large, empty, full, a wrap-around, a refused
 * call) with a test of its own, which tells the sentence if its answers are others. At the end it looks whether
 * a sentence or a piece of a promise has been left out.
 */
public final class BoundariesTest {
    public static void main(String[] args) throws IOException {
        Sentences sentences = new Sentences();
        LogBoundaries.lookAt(sentences);
        TellBoundaries.lookAt(sentences);
        PlateBoundaries.lookAt(sentences);
        TextBoundaries.lookAt(sentences);
        HistoryBoundaries.lookAt(sentences);
        ErrorBoundaries.lookAt(sentences);
        sentences.end("BoundariesTest");
    }
}
