import java.nio.file.Path;

/**
 * Each sentence of the document that names a boundary case, by a test of its own: the last values that are allowed and
 * the first that are not, nothing there yet and everything full, and of each refused call which exception it is, which
 * of several comes first, and that it changed nothing.
 */
public final class SentencesTest {
    public static void main(String[] args) throws Exception {
        Sentences sentences = new Sentences(Path.of("..", "shared", "DOC.md"));
        TermsSentences.all(sentences);
        PartsSentences.all(sentences);
        LinesSentences.all(sentences);
        ListsSentences.all(sentences);
        CostsSentences.all(sentences);
        OrdersSentences.all(sentences);
        sentences.finish();
    }
}
