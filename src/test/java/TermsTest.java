/**
 * The sentences of the section "Terms" that name a boundary case, one test for each, in the order of the document;
 * the answers are worked out by hand.
 */
final class TermsTest {
    private static final Check CHECK = new Check();

    public static void main(String[] args) {
        NodeTerms.all(CHECK);
        WaveTerms.all(CHECK);
        VoiceTerms.all(CHECK);
        CHECK.close("TermsTest");
    }
}
