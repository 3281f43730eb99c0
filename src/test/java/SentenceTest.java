import java.io.IOException;

/** Every sentence of the document's terms and promises, each by a test of its own. */
public final class SentenceTest {
    private SentenceTest() {
    }

    public static void main(String[] args) throws IOException {
        Sentences sentences = new Sentences();
        StandardSentences.testAll(sentences);
        TermSentences.testAll(sentences);
        TapeSentences.testAll(sentences);
        CipherSentences.testAll(sentences);
        sentences.close();
    }
}
