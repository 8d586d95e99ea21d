/** The sequences that place the cursor, and the region; promises 4, 5, 6 and 9. */
public final class MovesTest {
    public static void main(String[] args) {
        up();
        down();
        leftAndRight();
        withColumnZero();
        columnAndRow();
        position();
        positionWithOrigin();
        region();
        moversAreNotFull();
        othersStayFull();
        Probe.finish();
    }

    /** A cursor in a column of its own, with the region 2 .. 5. */
    private static Probe at(String what, int row) {
        return new Probe(what).pack(Probe.CSI + "3;6r" + Probe.CSI + (row + 1) + ";4H").cursor(row, 3);
    }

    private static void up() {
        new Probe("A").send("\n\n\nab" + Probe.CSI + "A").cursor(2, 2).send(Probe.CSI + "0A").cursor(1, 2);
        new Probe("9A").send("\n\n\nab" + Probe.CSI + "9A").cursor(0, 2);
        at("A to top", 4).send(Probe.CSI + "2A").cursor(2, 3).send(Probe.CSI + "A").cursor(2, 3);
        at("A not beyond top", 5).send(Probe.CSI + "9999A").cursor(2, 3);
        at("A above top", 1).send(Probe.CSI + "A").cursor(0, 3).send(Probe.CSI + "A").cursor(0, 3);
        at("A from below bottom", 7).send(Probe.CSI + "A").cursor(6, 3).send(Probe.CSI + "3A").cursor(3, 3);
        at("A from below bottom to top", 7).send(Probe.CSI + "7A").cursor(2, 3);
    }

    private static void down() {
        new Probe("B").send("ab" + Probe.CSI + "B").cursor(1, 2).send(Probe.CSI + "2B").cursor(3, 2);
        new Probe("9B").send("ab" + Probe.CSI + "9B").cursor(7, 2);
        at("B to bottom", 3).send(Probe.CSI + "2B").cursor(5, 3).send(Probe.CSI + "B").cursor(5, 3);
        at("B not beyond bottom", 2).send(Probe.CSI + "9999B").cursor(5, 3);
        at("B below bottom", 6).send(Probe.CSI + "B").cursor(7, 3).send(Probe.CSI + "B").cursor(7, 3);
        at("B from above top", 0).send(Probe.CSI + "B").cursor(1, 3).send(Probe.CSI + "B").cursor(2, 3);
        at("B from above top to bottom", 0).send(Probe.CSI + "7B").cursor(5, 3);
    }

    private static void leftAndRight() {
        new Probe("C").send(Probe.CSI + "C").cursor(0, 1).send(Probe.CSI + "3C").cursor(0, 4).send(Probe.CSI + "0C").cursor(0, 5);
        new Probe("C at the end").send(Probe.CSI + "11C").cursor(0, 11).send(Probe.CSI + "C").cursor(0, 11);
        new Probe("9999C").send("\n" + Probe.CSI + "9999C").cursor(1, 11);
        new Probe("D").send("abcde" + Probe.CSI + "D").cursor(0, 4).send(Probe.CSI + "3D").cursor(0, 1);
        new Probe("D at the beginning").send("\na" + Probe.CSI + "9999D").cursor(1, 0).send(Probe.CSI + "D").cursor(1, 0);
    }

    private static void withColumnZero() {
        at("E", 3).send(Probe.CSI + "E").cursor(4, 0);
        at("9E", 3).send(Probe.CSI + "9E").cursor(5, 0);
        at("E below bottom", 6).send(Probe.CSI + "9E").cursor(7, 0);
        at("F", 4).send(Probe.CSI + "F").cursor(3, 0);
        at("9F", 4).send(Probe.CSI + "9F").cursor(2, 0);
        at("F above top", 1).send(Probe.CSI + "9F").cursor(0, 0);
    }

    private static void columnAndRow() {
        at("G", 3).send(Probe.CSI + "G").cursor(3, 0).send(Probe.CSI + "12G").cursor(3, 11).send(Probe.CSI + "13G").cursor(3, 11);
        at("G of two", 3).send(Probe.CSI + "2;9G").cursor(3, 1);
        at("d", 3).send(Probe.CSI + "d").cursor(0, 3).send(Probe.CSI + "8d").cursor(7, 3).send(Probe.CSI + "9d").cursor(7, 3);
        at("d with ORIGIN", 3).send(Probe.CSI + "?6h" + Probe.CSI + "2d").cursor(1, 0).send(Probe.CSI + "8d").cursor(7, 0);
    }

    private static void position() {
        for (String last : new String[] {"H", "f"}) {
            Probe probe = new Probe(last).send(Probe.CSI + "4;7" + last).cursor(3, 6).send(Probe.CSI + last).cursor(0, 0);
            probe.send(Probe.CSI + "8;12" + last).cursor(7, 11).send(Probe.CSI + "9;13" + last).cursor(7, 11);
            probe.send(Probe.CSI + "1;1" + last).cursor(0, 0).send(Probe.CSI + "9999;9999" + last).cursor(7, 11);
            probe.send(Probe.CSI + "0;2" + last).cursor(0, 1).send(Probe.CSI + "2;0" + last).cursor(1, 0);
            at(last + " without ORIGIN", 3).send(Probe.CSI + "8;2" + last).cursor(7, 1).send(Probe.CSI + last).cursor(0, 0);
        }
    }

    private static void positionWithOrigin() {
        for (String last : new String[] {"H", "f"}) {
            Probe probe = at(last + " with ORIGIN", 3).send(Probe.CSI + "?6h").cursor(2, 0);
            probe.send(Probe.CSI + "2;3" + last).cursor(3, 2).send(Probe.CSI + "4;3" + last).cursor(5, 2);
            probe.send(Probe.CSI + "5;99" + last).cursor(5, 11).send(Probe.CSI + "9999" + last).cursor(5, 0);
            probe.send(Probe.CSI + last).cursor(2, 0);
        }
    }

    private static void region() {
        new Probe("r").send("\n\nab" + Probe.CSI + "2;5r").region(1, 4).cursor(0, 0);
        new Probe("r of all").send(Probe.CSI + "2;5r" + "\n\nab" + Probe.CSI + "r").region(0, 7).cursor(0, 0);
        new Probe("r from a row on").send(Probe.CSI + "3r").region(2, 7).send(Probe.CSI + "4;0r").region(3, 7);
        new Probe("r up to a row").send(Probe.CSI + ";3r").region(0, 2).send(Probe.CSI + "0;2r").region(0, 1);
        new Probe("r of 7 and 8").send(Probe.CSI + "7;8r").region(6, 7);
        new Probe("r is full no more").send("abcdefghijkl" + Probe.CSI + "r").cursor(0, 0, false);
        Probe refused = new Probe("r refused").send(Probe.CSI + "2;5r" + "\nab");
        String[] wrong = {"3;3r", "5;2r", "1;9r", "8r", "8;8r", "9r", "1;9999r", "1;1r", ";1r", "9999;9999r", "?1;3r"};
        for (String numbers : wrong) {
            refused.send(Probe.CSI + numbers).region(1, 4).cursor(1, 2);
        }
        new Probe("r refused stays full").send("abcdefghijkl" + Probe.CSI + "5;5r").cursor(0, 11, true);
        new Probe("r with ORIGIN").send(Probe.CSI + "?6h" + Probe.CSI + "3;5r").region(2, 4).cursor(2, 0);
        Probe kept = new Probe("the region stays with the page").send(Probe.CSI + "3;5r" + Probe.CSI + "?47h").region(2, 4);
        kept.send(Probe.CSI + "2;3r" + Probe.CSI + "?47l").region(1, 2);
    }

    private static void moversAreNotFull() {
        new Probe("A if full").send("\nabcdefghijkl" + Probe.CSI + "A").cursor(0, 11, false);
        String[] sequences = {"A", "C", "12G", "d", "1;12H", "1;12f", "99C"};
        for (String sequence : sequences) {
            Probe probe = new Probe(sequence + " if full").send("abcdefghijkl").cursor(0, 11, true);
            probe.send(Probe.CSI + sequence).cursor(0, 11, false).send("x").line(0, "abcdefghijkx").cursor(0, 11, true);
        }
        new Probe("B if full").send("abcdefghijkl" + Probe.CSI + "B").cursor(1, 11, false);
        new Probe("B if full in row 7").pack(Probe.CSI + "8H" + "abcdefghijkl" + Probe.CSI + "B").cursor(7, 11, false);
        new Probe("D if full").send("abcdefghijkl" + Probe.CSI + "D").cursor(0, 10, false);
        new Probe("E if full").send("abcdefghijkl" + Probe.CSI + "E").cursor(1, 0, false);
        new Probe("F if full").send("abcdefghijkl" + Probe.CSI + "F").cursor(0, 0, false);
        new Probe("ORIGIN if full").send("abcdefghijkl" + Probe.CSI + "?6l").cursor(0, 0, false);
    }

    private static void othersStayFull() {
        String[] sequences = {"J", "1J", "2J", "K", "1K", "2K", "X", "@", "P", "L", "M", "S", "T", "m", "s", "g", "3g", "h",
            "4h", "4l", "5n", "6n", "?7h", "?7l", "?47h", "?47l", "9J", "z", "?h"};
        for (String sequence : sequences) {
            new Probe(sequence + " stays full").send("abcdefghijkl" + Probe.CSI + sequence).cursor(0, 11, true);
        }
        new Probe("ESCAPE 7 and = stay full").send("abcdefghijkl" + Probe.ESC + "7" + Probe.ESC + "=").cursor(0, 11, true);
        new Probe("title stays full").send("abcdefghijkl" + Probe.ESC + "]a\7").cursor(0, 11, true);
    }
}
