/** Promise 1, and ESCAPE c, which makes all as at first. */
public final class AtFirstTest {
    public static void main(String[] args) {
        newObject();
        twoObjectsAreApart();
        resetOfAll();
        resetOfWhatIsSaved();
        resetOfTheSecondPage();
        resetOfTheLastLetter();
        Probe.finish();
    }

    private static void newObject() {
        new Probe("new").atFirst();
        new Probe("new, saved").send("abc" + Probe.CSI + "1m" + Probe.ESC + "8").cursor(0, 0).pen(0).mode(1, 0);
        new Probe("new, nothing to repeat").send(Probe.CSI + "5b").atFirst();
        new Probe("new, page 1").send(Probe.CSI + "?47h").cells(32, 0, 96);
    }

    private static void twoObjectsAreApart() {
        Probe one = new Probe("one");
        Probe two = new Probe("two");
        one.send("x" + Probe.CSI + "1;4m\7");
        two.atFirst();
        one.cursor(0, 1).pen(3).bells(1).code(0, 0, 'x');
    }

    private static void resetOfAll() {
        Probe probe = new Probe("c").fill();
        probe.pack(Probe.CSI + "2;4r" + Probe.CSI + "?6;7l" + Probe.CSI + "4h" + Probe.CSI + "1;31;42m");
        probe.pack(Probe.CSI + "3g" + Probe.CSI + "3;3H" + Probe.ESC + "H" + Probe.CSI + "6n\7");
        probe.pack(Probe.ESC + "]name\7" + Probe.CSI + "?6h");
        probe.mode(0, 1).mode(1, 1).mode(2, 0).bells(1).title("name").region(1, 3);
        probe.pack(Probe.ESC + "c").atFirst();
    }

    private static void resetOfWhatIsSaved() {
        Probe probe = new Probe("c, saved").send(Probe.CSI + "?6h" + Probe.CSI + "1m" + "ab" + Probe.ESC + "7");
        probe.send(Probe.ESC + "c" + "xyz" + Probe.ESC + "8").cursor(0, 0).pen(0).mode(1, 0);
    }

    private static void resetOfTheSecondPage() {
        Probe probe = new Probe("c on page 1").send("a" + Probe.CSI + "?47h" + "b" + Probe.ESC + "c").atFirst();
        probe.send(Probe.CSI + "?47h").cells(32, 0, 96);
    }

    private static void resetOfTheLastLetter() {
        new Probe("c, nothing to repeat").send("a" + Probe.ESC + "c" + Probe.CSI + "3b").atFirst();
    }
}
