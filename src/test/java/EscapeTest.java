/** ESCAPE, WASTE and SAVED. */
public final class EscapeTest {
    public static void main(String[] args) {
        everyByte();
        waste();
        nextRow();
        backing();
        saving();
        savingBySequence();
        Probe.finish();
    }

    private static void everyByte() {
        for (int b = 32; b < 127; b++) {
            int state = b == '[' ? 2 : b == ']' ? 4 : b < 48 ? 3 : 0;
            Probe probe = new Probe("ESCAPE " + (char) b).bytes(27, b).state(state).cells(32, 0, 96);
            if ("78DEHM[]c".indexOf(b) < 0) {
                probe.cursor(0, 0).tabs("....T...T...").bells(0).noReply();
            }
        }
    }

    private static void waste() {
        for (int b = 32; b < 127; b++) {
            new Probe("WASTE " + (char) b).send(Probe.ESC + "(").bytes(b).state(b < 64 ? 3 : 0).cursor(0, 0).cells(32, 0, 96);
        }
        new Probe("WASTE goes on").send(Probe.ESC + "#0123;?~" + "x").line(0, "x           ").state(0);
        new Probe("WASTE does nothing").send("ab" + Probe.CSI + "3 H").cursor(0, 2).state(0);
        new Probe("WASTE without [").send(Probe.ESC + " [" + "a").line(0, "a           ").state(0);
    }

    private static void nextRow() {
        new Probe("E").send("abc" + Probe.ESC + "E").cursor(1, 0).state(0);
        new Probe("E if full").send("abcdefghijkl" + Probe.ESC + "E").cursor(1, 0, false);
        new Probe("E in row 7").fill().pack(Probe.CSI + "8;5H" + Probe.ESC + "E").cursor(7, 0).firstColumn("bcdefgh ");
    }

    private static void backing() {
        new Probe("M").send("\n\nab" + Probe.ESC + "M").cursor(1, 2).state(0);
        new Probe("M in row 0").fill().pack(Probe.CSI + "3G" + Probe.ESC + "M").cursor(0, 2).firstColumn(" abcdefg");
        Probe top = new Probe("M in top").fill().pack(Probe.CSI + "2;4r" + Probe.CSI + "2H" + Probe.ESC + "M");
        top.cursor(1, 0).firstColumn("a bcefgh");
        Probe above = new Probe("M above top").fill().pack(Probe.CSI + "3;5r" + Probe.CSI + "2H" + Probe.ESC + "M");
        above.cursor(0, 0).pack(Probe.ESC + "M").cursor(0, 0).firstColumn("abcdefgh");
        Probe below = new Probe("M below bottom").fill().pack(Probe.CSI + "3;5r" + Probe.CSI + "6H" + Probe.ESC + "M");
        below.cursor(4, 0).firstColumn("abcdefgh");
        new Probe("M if full").send("\nabcdefghijkl" + Probe.ESC + "M").cursor(0, 11, false);
        new Probe("M if full in top").send("abcdefghijkl" + Probe.ESC + "M").cursor(0, 11, false).line(1, "abcdefghijkl");
        new Probe("M if full in row 0 above top").pack(Probe.CSI + "3;5r" + "abcdefghijkl" + Probe.ESC + "M")
            .cursor(0, 11, false).line(0, "abcdefghijkl");
    }

    private static void saving() {
        Probe probe = new Probe("7 and 8").send(Probe.CSI + "3;4H" + Probe.CSI + "1;31m" + Probe.ESC + "7").state(0);
        probe.cursor(2, 3).pen(17).send("xyz\n" + Probe.CSI + "m" + Probe.ESC + "8").cursor(2, 3).pen(17).state(0);
        probe.send(Probe.CSI + "H" + Probe.ESC + "8").cursor(2, 3);
        Probe full = new Probe("7 of a full cursor").send("abcdefghijkl" + Probe.ESC + "7").cursor(0, 11, true);
        full.send("\r" + Probe.ESC + "8").cursor(0, 11, true).send("m").cursor(1, 1);
        Probe notFull = new Probe("8 to a cursor that is not full").send(Probe.CSI + "12G" + Probe.ESC + "7" + "x");
        notFull.cursor(0, 11, true).send(Probe.ESC + "8").cursor(0, 11, false);
        Probe origin = new Probe("ORIGIN is saved").send(Probe.CSI + "2;4r" + Probe.CSI + "?6h" + Probe.ESC + "7");
        origin.send(Probe.CSI + "?6l").mode(1, 0).cursor(0, 0).send(Probe.ESC + "8").mode(1, 1).cursor(1, 0);
        Probe others = new Probe("other things are not saved").send(Probe.ESC + "7" + Probe.CSI + "4h" + Probe.CSI + "?7l");
        others.send(Probe.CSI + "2;3r" + Probe.CSI + "3g" + Probe.CSI + "?47h" + Probe.ESC + "8");
        others.mode(0, 1).mode(2, 0).mode(3, 1).region(1, 2).tabs("............");
        Probe raw = new Probe("8 goes beyond the region").send(Probe.CSI + "8;1H" + Probe.ESC + "7" + Probe.CSI + "2;4r");
        raw.send(Probe.ESC + "8").cursor(7, 0);
        Probe pages = new Probe("one cursor is saved for both pages").send("ab" + Probe.ESC + "7" + Probe.CSI + "?47h");
        pages.send("cd" + Probe.ESC + "8").cursor(0, 2).send(Probe.CSI + "?47l").cursor(0, 2);
    }

    private static void savingBySequence() {
        Probe probe = new Probe("s and u").send("ab" + Probe.CSI + "4m" + Probe.CSI + "s").cursor(0, 2);
        probe.send("\n\n" + Probe.CSI + "m" + Probe.CSI + "u").cursor(0, 2).pen(2);
        probe.send("\r" + Probe.CSI + "3;4u").cursor(0, 2).send("c" + Probe.CSI + "9s" + "\r" + Probe.ESC + "8").cursor(0, 3);
        probe.send("\r" + Probe.ESC + "7" + "xyz" + Probe.CSI + "u").cursor(0, 0);
        Probe secret = new Probe("private s and u").send("ab" + Probe.CSI + "?s" + "c" + Probe.CSI + "u").cursor(0, 0);
        secret.send("abc" + Probe.CSI + "?u").cursor(0, 3);
    }
}
