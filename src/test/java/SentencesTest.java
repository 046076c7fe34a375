import java.io.IOException;

/** Each sentence of the document by itself; with words as an argument, only the sentences that have them. */
public final class SentencesTest {
    private SentencesTest() {
    }

    public static void main(String[] args) throws IOException {
        Check.watch();
        Sentences sentences = new Sentences(args.length > 0 ? args[0] : "");
        TermsSentences.tell(sentences);
        TextSentences.tell(sentences);
        ChangeSentences.tell(sentences);
        QuestionSentences.tell(sentences);
        PastSentences.tell(sentences);
        sentences.end("Not promised");
        Check.end("SentencesTest");
    }
}
