import java.io.IOException;

/** Each sentence of the document, with the boundary cases that it names. */
public final class SentencesTest {
    public static void main(String[] args) throws IOException {
        Check check = new Check("SentencesTest");
        Sentences doc = new Sentences(check);
        TermSentences.test(doc);
        StepSentences.test(doc);
        FanSentences.test(doc);
        RefusalSentences.test(doc);
        CallSentences.test(doc);
        AnswerSentences.test(doc);
        doc.noneIsLeft();
        check.end();
    }
}
