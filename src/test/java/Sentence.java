/** Ties a test to the words of the document that it belongs to. */
final class Sentence {
    private Sentence() { }

    /** SentencesTest reads these calls, so the words stand there as written texts. */
    static void holds(String words, Runnable test) {
        Probe.about(words);
        try {
            test.run();
        } catch (RuntimeException thrown) {
            Probe.same("the test was ended by " + thrown, false, true);
        }
        Probe.about("");
    }
}
