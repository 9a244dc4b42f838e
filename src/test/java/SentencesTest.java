/** Each sentence of the document that names a boundary case has a test of its own. */
public final class SentencesTest {
    public static void main(String[] args) {
        DescriptionSentences.all();
        FormSentences.all();
        TextSentences.all();
        StateSentences.all();
        ProgramSentences.all();
        LayoutSentences.all();
        TransferSentences.all();
        PoolSentences.all();
        HistorySentences.all();
        Sentences.compareWithDocument();
        Expect.end();
    }
}
