import java.io.IOException;

/** The document read sentence by sentence: each has a test of its own, at its edges and on both sides of them. */
public final class SentencesTest extends Check {
    private SentencesTest() {
    }

    public static void main(String[] args) throws IOException {
        Document.open();
        TermsSentences.run();
        ChangeSentences.run();
        MarginSentences.run();
        SetupSentences.run();
        CallSentences.run();
        PromiseSentences.run();
        Document.close();
        Check.end("SentencesTest");
    }
}
