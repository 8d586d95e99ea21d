/** Terms: AT FIRST; promise 1, and ESCAPE c, which makes all as at first. */
public final class AtFirstTest {
    public static void main(String[] args) {
        Sentence.holds("AT FIRST both pages are blank, 0 is shown,", AtFirstTest::bothPagesAreBlank);
        Sentence.holds("the cursor is placed at (0, 0), the pen is 0, the region is 0 to 7,", AtFirstTest::cursorPenAndRegion);
        Sentence.holds("columns 4 and 8 have tab stops, only WRAP is on,", AtFirstTest::tabStopsAndModes);
        Sentence.holds("and just that is saved;", AtFirstTest::justThatIsSaved);
        Sentence.holds("no letter was printed,", AtFirstTest::noLetterWasPrinted);
        Sentence.holds("no bell rung, no reply waits, the title is empty, and the state is GROUND.",
            AtFirstTest::nothingCameOfBytesYet);
        Sentence.holds("`ScreenDesk()`: All as at first.", AtFirstTest::aNewObject);
        Sentence.holds("`ScreenDesk()`: All as at first.", AtFirstTest::twoObjectsAreApart);
        Sentence.holds("c all becomes as at first.", AtFirstTest::resetOfAll);
        Sentence.holds("c all becomes as at first.", AtFirstTest::resetOfWhatIsSaved);
        Sentence.holds("c all becomes as at first.", AtFirstTest::resetOfTheSecondPage);
        Sentence.holds("c all becomes as at first.", AtFirstTest::resetOfTheLastLetter);
        Probe.finish();
    }

    private static void bothPagesAreBlank() {
        new Probe("page 0").mode(3, 0).cells(32, 0, 96);
        new Probe("page 1").seq("?47h").mode(3, 1).cells(32, 0, 96);
    }

    private static void cursorPenAndRegion() {
        new Probe("new").cursor(0, 0, false).pen(0).region(0, 7);
    }

    private static void tabStopsAndModes() {
        new Probe("new").tabs("....T...T...").mode(0, 0).mode(1, 0).mode(2, 1);
    }

    private static void justThatIsSaved() {
        new Probe("ESCAPE 8").fillRow().seq("?6h", "1m", "3;3H").esc("8").cursor(0, 0).pen(0).mode(1, 0);
        new Probe("u").fillRow().seq("?6h", "1m", "3;3H", "u").cursor(0, 0).pen(0).mode(1, 0);
    }

    private static void noLetterWasPrinted() {
        new Probe("b").seq("b", "5b", "9999b").atFirst();
    }

    private static void nothingCameOfBytesYet() {
        new Probe("new").bells(0).noReply().title("").state(0);
    }

    private static void aNewObject() {
        new Probe("new").atFirst();
    }

    private static void twoObjectsAreApart() {
        Probe one = new Probe("one");
        Probe two = new Probe("two");
        one.pack("x").seq("1;4m", "2;3r", "4h", "?7l", "5n", "3g").esc("]t\7").pack("\7");
        two.atFirst();
        one.pen(3).bells(1).code(0, 0, 'x').title("t").region(1, 2);
        new Probe("a third one").atFirst();
    }

    private static void resetOfAll() {
        Probe probe = new Probe("c").fill().seq("2;4r", "?6;7l", "4h", "1;31;42m", "3g", "3;3H").esc("H").seq("6n");
        probe.pack("\7").esc("]name\7").seq("?6h");
        probe.mode(0, 1).mode(1, 1).mode(2, 0).bells(1).title("name").region(1, 3).waiting(6);
        probe.esc("c").atFirst();
        new Probe("c if full").fillRow().esc("c").atFirst();
        new Probe("c of what is as at first").esc("c").atFirst();
    }

    private static void resetOfWhatIsSaved() {
        Probe probe = new Probe("c, saved").seq("?6h", "1m").fillRow().esc("7").esc("c").pack("xyz").esc("8");
        probe.cursor(0, 0).pen(0).mode(1, 0);
    }

    private static void resetOfTheSecondPage() {
        Probe probe = new Probe("c on page 1").fill().seq("?47h").fill().esc("c").atFirst();
        probe.seq("?47h").cells(32, 0, 96);
    }

    private static void resetOfTheLastLetter() {
        new Probe("c, nothing to repeat").pack("a").esc("c").seq("3b").atFirst();
    }
}
