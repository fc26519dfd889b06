import java.io.IOException;

/** Each sentence of the document's terms and promises has a test of its own, named by its words. */
public final class SentenceTest {
    public static void main(String[] args) throws IOException {
        Sentences sentences = new Sentences();
        new PeopleSentences(sentences).run();
        new TextSentences(sentences).run();
        new KeepingSentences(sentences).run();
        new CallSentences(sentences).run();
        sentences.finish();
    }
}
