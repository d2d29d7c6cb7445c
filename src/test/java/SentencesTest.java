import java.io.IOException;

/** The document sentence by sentence, each with its edges: no word of its terms and promises may be left out. */
public final class SentencesTest {
    private SentencesTest() {
    }

    public static void main(String[] args) throws IOException {
        Document.open();
        TermsOfText.look();
        TermsOfDays.look();
        TermsOfPlans.look();
        PromisesOfText.look();
        PromisesOfDays.look();
        PromisesOfWonder.look();
        PromisesOfPlans.look();
        PromisesOfYears.look();
        Document.close();
        Checks.finish("SentencesTest");
    }
}
