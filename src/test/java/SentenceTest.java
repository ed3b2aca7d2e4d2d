import java.io.IOException;

/** The document sentence by sentence: from its first to its last, each is quoted by what tries it. */
final class SentenceTest {
    public static void main(String[] args) throws IOException {
        Document document = new Document();
        new FaceSentences(document).check();
        new TermSentences(document).check();
        new PromiseSentences(document).check();
        new Refusals(document).check();
        document.dueAllQuoted();
        Check.end();
    }
}
