/** A test of its own for each sentence of the document; fails, too, for a sentence that has none. */
public final class SentencesTest {
    public static void main(String[] args) {
        TermsSentences.test();
        TermsOfTextSentences.test();
        TermsOfUndoSentences.test();
        TextSentences.test();
        ListActionSentences.test();
        ReaderActionSentences.test();
        LookSentences.test();
        RestSentences.test();
        Sentences.end();
    }
}
