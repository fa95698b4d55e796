/** Each sentence of the document's terms and promises has a test of its own; none is left out. */
public final class SentencesTest {
    public static void main(String[] args) throws Exception {
        Document.read();
        TermsOfGlass.all();
        TermsOfReadings.all();
        Answers.all();
        Ranges.all();
        Refusals.all();
        Sound.all();
        Document.end();
        Checks.end();
    }
}
