import java.io.IOException;

/** The document sentence by sentence: each of "Terms" and of the promises is quoted by what tries it. */
final class SentenceTest {
    public static void main(String[] args) throws IOException {
        Document document = new Document();
        new TermSentences(document).check();
        new PromiseSentences(document).check();
        new Refusals(document).check();
        document.dueAllQuoted();
        Check.end();
    }
}
