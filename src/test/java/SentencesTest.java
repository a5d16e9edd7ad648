import java.io.IOException;

/** The document's sentences from its first to its last: each has a test that quotes it, and none is left out. */
public final class SentencesTest {
    public static void main(String[] args) throws IOException {
        FrameSentences.test();
        HouseSentences.test();
        BadgeSentences.test();
        RequestSentences.test();
        PresenceSentences.test();
        WaySentences.test();
        ThrowSentences.test();
        Document.isTested();
        Check.done("SentencesTest");
    }
}
