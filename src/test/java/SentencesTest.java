import java.io.IOException;

/** The document sentence by sentence from its first line, each with its edges: no word of it may be left out. */
public final class SentencesTest {
    private SentencesTest() {
    }

    public static void main(String[] args) throws IOException {
        Document.open();
        WhatItIs.look();
        TheFace.look();
        TermsOfText.look();
        TermsOfDays.look();
        TermsOfPlans.look();
        PromisesOfText.look();
        PromisesOfDays.look();
        PromisesOfWonder.look();
        PromisesOfPlans.look();
        PromisesOfYears.look();
        NotPromised.look();
        Document.close();
        Checks.finish("SentencesTest");
    }
}
