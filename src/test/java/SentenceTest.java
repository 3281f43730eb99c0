import java.io.IOException;

/** Every sentence of the document up to its last promise, each by a test of its own. */
public final class SentenceTest {
    private SentenceTest() {
    }

    public static void main(String[] args) throws IOException {
        Sentences sentences = new Sentences();
        OpeningSentences.testAll(sentences);
        StandardSentences.testAll(sentences);
        TermSentences.testAll(sentences);
        TapeSentences.testAll(sentences);
        CipherSentences.testAll(sentences);
        sentences.close();
    }
}
