/** Terms: the sequences that place the cursor. */
public final class MovesTest {
    private static final int[] STEPS = {1, 2, 3, 4, 5, 6, 7, 8, 9, 9999};

    public static void main(String[] args) {
        Sentence.holds("A up by n, B down by n: not beyond top or bottom if the cursor is not beyond it already, "
            + "else not beyond row 0 or 7.", MovesTest::up);
        Sentence.holds("A up by n, B down by n: not beyond top or bottom if the cursor is not beyond it already, "
            + "else not beyond row 0 or 7.", MovesTest::down);
        Sentence.holds("C right, D left by n, not beyond columns 11 and 0.", MovesTest::rightAndLeft);
        Sentence.holds("E as B, F as A, and column 0.", MovesTest::upAndDownToColumn0);
        Sentence.holds("G column n - 1, at most 11.", MovesTest::toAColumn);
        Sentence.holds("d row n - 1, at most 7.", MovesTest::toARow);
        Sentence.holds("H and f: row n - 1 and column q - 1 (0 if q is 0), at most 7 and 11;", MovesTest::toARowAndColumn);
        Sentence.holds("with ORIGIN top + n - 1 and at most bottom.", MovesTest::toARowAndColumnWithOrigin);
        Sentence.holds("All these place the cursor.", MovesTest::allThesePlaceTheCursor);
        Probe.finish();
    }

    private static int rowAbove(Spot spot, int n) {
        int least = spot.row() >= spot.top() ? spot.top() : 0;
        return Math.max(least, spot.row() - n);
    }

    private static int rowBelow(Spot spot, int n) {
        int most = spot.row() <= spot.bottom() ? spot.bottom() : 7;
        return Math.min(most, spot.row() + n);
    }

    private static void up() {
        for (Spot spot : Spot.all()) {
            for (int n : STEPS) {
                spot.blank(n + "A", 3).seq(n + "A").cursor(rowAbove(spot, n), 3).cells(32, 0, 96);
            }
        }
        Probe still = new Spot(2, 5, 2).filled("A scrolls nothing", 3).seq("A", "9A").cursor(2, 3);
        still.firstColumn(Probe.ALL_ROWS).seq("1d", "A").cursor(0, 3).firstColumn(Probe.ALL_ROWS);
    }

    private static void down() {
        for (Spot spot : Spot.all()) {
            for (int n : STEPS) {
                spot.blank(n + "B", 3).seq(n + "B").cursor(rowBelow(spot, n), 3).cells(32, 0, 96);
            }
        }
        Probe still = new Spot(2, 5, 5).filled("B scrolls nothing", 3).seq("B", "9B").cursor(5, 3);
        still.firstColumn(Probe.ALL_ROWS).seq("8d", "B").cursor(7, 3).firstColumn(Probe.ALL_ROWS);
    }

    private static void rightAndLeft() {
        for (int column = 0; column < 12; column++) {
            for (int n : new int[] {1, 2, 5, 10, 11, 12, 13, 9999}) {
                String at = "3;" + (column + 1) + "H";
                new Probe(n + "C from " + column).seq(at, n + "C").cursor(2, Math.min(11, column + n));
                new Probe(n + "D from " + column).seq(at, n + "D").cursor(2, Math.max(0, column - n));
            }
        }
    }

    private static void upAndDownToColumn0() {
        for (Spot spot : Spot.all()) {
            for (int n : STEPS) {
                spot.blank(n + "E", 3).seq(n + "E").cursor(rowBelow(spot, n), 0);
                spot.blank(n + "F", 3).seq(n + "F").cursor(rowAbove(spot, n), 0);
            }
        }
        new Spot(2, 5, 5).filled("E scrolls nothing", 3).seq("E").cursor(5, 0).firstColumn(Probe.ALL_ROWS);
        new Spot(2, 5, 2).filled("F scrolls nothing", 3).seq("F").cursor(2, 0).firstColumn(Probe.ALL_ROWS);
    }

    private static void toAColumn() {
        for (int n = 1; n < 16; n++) {
            new Probe(n + "G").seq("4;6H", n + "G").cursor(3, Math.min(11, n - 1));
        }
        new Probe("9999G").seq("4;6H", "9999G").cursor(3, 11);
        new Probe("G with ORIGIN").seq("3;5r", "?6h", "5G").cursor(2, 4);
    }

    private static void toARow() {
        for (int n = 1; n < 12; n++) {
            new Probe(n + "d").seq("4;6H", n + "d").cursor(Math.min(7, n - 1), 5);
            new Probe(n + "d with ORIGIN").seq("3;5r", "?6h", "6G", n + "d").cursor(Math.min(7, n - 1), 5);
        }
        new Probe("9999d").seq("4;6H", "9999d").cursor(7, 5);
    }

    private static void toARowAndColumn() {
        for (String last : new String[] {"H", "f"}) {
            for (int n = 0; n < 11; n++) {
                for (int q = 0; q < 15; q++) {
                    Probe probe = new Probe(n + ";" + q + last).seq("3;5r", "4;6H", n + ";" + q + last);
                    probe.cursor(Math.min(7, Math.max(0, n - 1)), Math.min(11, Math.max(0, q - 1)));
                }
            }
            new Probe("9999;9999" + last).seq("9999;9999" + last).cursor(7, 11);
            new Probe(last).seq("4;6H", last).cursor(0, 0);
            new Probe("3" + last).seq("4;6H", "3" + last).cursor(2, 0);
        }
    }

    private static void toARowAndColumnWithOrigin() {
        for (Spot spot : Spot.all()) {
            for (String last : new String[] {"H", "f"}) {
                int n = spot.row() + 1;
                Probe probe = spot.blank(n + last, 3).seq("?6h", n + ";7" + last);
                probe.cursor(Math.min(spot.bottom(), spot.top() + n - 1), 6);
                probe.seq("9999;9999" + last).cursor(spot.bottom(), 11).seq(last).cursor(spot.top(), 0);
            }
        }
    }

    private static void allThesePlaceTheCursor() {
        String[] inPlace = {"A", "C", "12G", "d", "1;12H", "1;12f"};
        for (String sequence : inPlace) {
            new Probe(sequence).fillRow().seq(sequence).cursor(0, 11, false).pack("x").line(0, "abcdefghijkx");
        }
        new Probe("B").fillRow().seq("B").cursor(1, 11, false);
        new Probe("B in row 7").seq("8H").fillRow().seq("B").cursor(7, 11, false);
        new Probe("D").fillRow().seq("D").cursor(0, 10, false);
        new Probe("E").fillRow().seq("E").cursor(1, 0, false);
        new Probe("F").fillRow().seq("F").cursor(0, 0, false);
    }
}
