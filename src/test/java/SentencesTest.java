import java.io.IOException;

/** The document's sentences from its Description to promise 26: each has a test that quotes it, and none is left out. */
public final class SentencesTest {
    public static void main(String[] args) throws IOException {
        HouseSentences.test();
        BadgeSentences.test();
        RequestSentences.test();
        PresenceSentences.test();
        WaySentences.test();
        ThrowSentences.test();
        Document.isTested();
        Check.done("SentencesTest");
    }
}
