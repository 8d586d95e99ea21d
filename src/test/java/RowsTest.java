/** Terms: the sequences that put rows in, take them out, and scroll. */
public final class RowsTest {
    private static final int[] TIMES = {1, 2, 3, 4, 6, 7, 8, 9, 9999};

    public static void main(String[] args) {
        Sentence.holds("L, if the cursor is in the region: n times a blank row is put in at its row, the rows from there to "
            + "bottom move down, the last one is lost.", RowsTest::putsRowsIn);
        Sentence.holds("M, likewise: n times its row is taken out, those to bottom move up, a blank one comes in.",
            RowsTest::takesRowsOut);
        Sentence.holds("M, likewise: n times its row is taken out, those to bottom move up, a blank one comes in.",
            RowsTest::looksMoveAlong);
        Sentence.holds("S scrolls up n times, T down.", RowsTest::scrollsUp);
        Sentence.holds("S scrolls up n times, T down.", RowsTest::scrollsDown);
        Probe.finish();
    }

    private static int blankCells(String rows) {
        return 12 * (int) rows.chars().filter(row -> row == ' ').count();
    }

    private static void putsRowsIn() {
        for (Spot spot : Spot.all()) {
            for (int n : TIMES) {
                String rows = spot.isInRegion() ? spot.movedDown(spot.row(), Math.min(n, 9)) : Probe.ALL_ROWS;
                Probe probe = spot.filled(n + "L", 3).seq(n + "L").cursor(spot.row(), 3).firstColumn(rows);
                probe.cells(32, 0, blankCells(rows));
            }
        }
    }

    private static void takesRowsOut() {
        for (Spot spot : Spot.all()) {
            for (int n : TIMES) {
                String rows = spot.isInRegion() ? spot.movedUp(spot.row(), Math.min(n, 9)) : Probe.ALL_ROWS;
                Probe probe = spot.filled(n + "M", 3).seq(n + "M").cursor(spot.row(), 3).firstColumn(rows);
                probe.cells(32, 0, blankCells(rows));
            }
        }
    }

    private static void looksMoveAlong() {
        Probe probe = new Probe("looks").seq("1m").pack("a").seq("4m").pack("b\r");
        probe.seq("L").look(0, 0, 0).look(1, 0, 1).look(1, 1, 3).seq("T").look(1, 0, 0).look(2, 0, 1).look(2, 1, 3);
        probe.seq("S").look(2, 0, 0).look(1, 0, 1).seq("M").look(0, 0, 1).look(0, 1, 3).look(1, 0, 0);
        probe.line(0, "ab          ").cells(32, 0, 94);
    }

    private static void scrollsUp() {
        for (Spot spot : Spot.all()) {
            for (int n : TIMES) {
                String rows = spot.movedUp(spot.top(), Math.min(n, 9));
                Probe probe = spot.filled(n + "S", 3).seq(n + "S").cursor(spot.row(), 3).firstColumn(rows);
                probe.cells(32, 0, blankCells(rows));
            }
        }
    }

    private static void scrollsDown() {
        for (Spot spot : Spot.all()) {
            for (int n : TIMES) {
                String rows = spot.movedDown(spot.top(), Math.min(n, 9));
                Probe probe = spot.filled(n + "T", 3).seq(n + "T").cursor(spot.row(), 3).firstColumn(rows);
                probe.cells(32, 0, blankCells(rows));
            }
        }
    }
}
