/** Terms: the sequences that clear cells, put them in and take them out. */
public final class CellsTest {
    private static final int[] COUNTS = {0, 1, 2, 3, 8, 9, 10, 11, 12, 13, 9999};

    public static void main(String[] args) {
        Sentence.holds("J clears, for p = 0 the cells from the cursor to the page's end, 1 those from its beginning to the "
            + "cursor, 2 all.", CellsTest::clearsInThePage);
        Sentence.holds("J clears, for p = 0 the cells from the cursor to the page's end, 1 those from its beginning to the "
            + "cursor, 2 all.", CellsTest::otherNumbersClearNothingInThePage);
        Sentence.holds("K the same in the cursor's row.", CellsTest::clearsInTheRow);
        Sentence.holds("K the same in the cursor's row.", CellsTest::otherNumbersClearNothingInTheRow);
        Sentence.holds("X clears n cells from the cursor on, in its row.", CellsTest::clearsCells);
        Sentence.holds("@ puts n blank cells in at the cursor: those from there on move right, the last ones are lost.",
            CellsTest::putsCellsIn);
        Sentence.holds("P takes n cells out there: those behind move left, blank ones come in.", CellsTest::takesCellsOut);
        Sentence.holds("P takes n cells out there: those behind move left, blank ones come in.", CellsTest::looksMoveAlong);
        Probe.finish();
    }

    /** A page of letters with a region that must not matter, the cursor in a cell. */
    private static Probe at(String what, int row, int column) {
        return new Spot(3, 4, row).filled(what, column);
    }

    /** Looks at every cell: blank if it was to be cleared, else as filled. */
    private static void cleared(Probe probe, int from, int to) {
        for (int row = 0; row < 8; row++) {
            StringBuilder line = new StringBuilder();
            for (int column = 0; column < 12; column++) {
                int cell = row * 12 + column;
                line.append(cell >= from && cell <= to ? ' ' : Probe.ALL_ROWS.charAt(row));
            }
            probe.line(row, line.toString());
        }
        probe.cells(32, 0, to - from + 1).cells(32, -1, to - from + 1);
    }

    private static void clearsInThePage() {
        for (int cell = 0; cell < 96; cell++) {
            int row = cell / 12;
            int column = cell % 12;
            cleared(at("J", row, column).seq("J").cursor(row, column), cell, 95);
            cleared(at("0J", row, column).seq("0J").cursor(row, column), cell, 95);
            cleared(at("1J", row, column).seq("1J").cursor(row, column), 0, cell);
            cleared(at("2J", row, column).seq("2J").cursor(row, column), 0, 95);
        }
        new Probe("J if full").fillRow().seq("J").line(0, "abcdefghijk ").cursor(0, 11, true);
    }

    private static void otherNumbersClearNothingInThePage() {
        for (String other : new String[] {"3J", "4J", "9999J", "?J", "?0J", "?1J", "?2J"}) {
            at(other, 3, 4).seq(other).cells(32, -1, 0).cursor(3, 4);
        }
    }

    private static void clearsInTheRow() {
        for (int cell = 0; cell < 96; cell++) {
            int row = cell / 12;
            int column = cell % 12;
            cleared(at("K", row, column).seq("K").cursor(row, column), cell, row * 12 + 11);
            cleared(at("0K", row, column).seq("0K").cursor(row, column), cell, row * 12 + 11);
            cleared(at("1K", row, column).seq("1K").cursor(row, column), row * 12, cell);
            cleared(at("2K", row, column).seq("2K").cursor(row, column), row * 12, row * 12 + 11);
        }
        new Probe("K if full").fillRow().seq("K").line(0, "abcdefghijk ").cursor(0, 11, true);
    }

    private static void otherNumbersClearNothingInTheRow() {
        for (String other : new String[] {"3K", "4K", "9999K", "?K", "?0K", "?1K", "?2K"}) {
            at(other, 3, 4).seq(other).cells(32, -1, 0).cursor(3, 4);
        }
    }

    private static void clearsCells() {
        for (int column = 0; column < 12; column++) {
            for (int n : COUNTS) {
                int first = 36 + column;
                int last = Math.min(47, first + Math.max(1, n) - 1);
                cleared(at(n + "X", 3, column).seq(n + "X").cursor(3, column), first, last);
            }
        }
        cleared(at("X in the last cell", 7, 11).seq("9999X"), 95, 95);
    }

    private static void putsCellsIn() {
        for (int column = 0; column < 12; column++) {
            for (int n : COUNTS) {
                String blanks = " ".repeat(Math.min(12, Math.max(1, n)));
                String row = new StringBuilder(Probe.ALL_COLUMNS).insert(column, blanks).substring(0, 12);
                Probe probe = new Probe(n + "@ in " + column).fill().seq("4H").fillRow().seq((column + 1) + "G", n + "@");
                probe.line(3, row).cursor(3, column).line(2, "cccccccccccc").line(4, "eeeeeeeeeeee");
            }
        }
        at("@ in the last cell", 7, 11).seq("9999@").cells(32, 0, 1).code(7, 11, 32);
    }

    private static void takesCellsOut() {
        for (int column = 0; column < 12; column++) {
            for (int n : COUNTS) {
                int to = Math.min(12, column + Math.max(1, n));
                String row = new StringBuilder(Probe.ALL_COLUMNS).delete(column, to).append(Probe.BLANK_LINE).substring(0, 12);
                Probe probe = new Probe(n + "P in " + column).fill().seq("4H").fillRow().seq((column + 1) + "G", n + "P");
                probe.line(3, row).cursor(3, column).line(2, "cccccccccccc").line(4, "eeeeeeeeeeee");
            }
        }
        at("P in the last cell", 7, 11).seq("9999P").cells(32, 0, 1).code(7, 11, 32);
    }

    private static void looksMoveAlong() {
        Probe probe = new Probe("looks").seq("1m").pack("a").seq("4m").pack("b").seq("7m").pack("c\r");
        probe.seq("2@").look(0, 0, 0).look(0, 1, 0).look(0, 2, 1).look(0, 3, 3).look(0, 4, 7).line(0, "  abc       ");
        probe.seq("3P").look(0, 0, 3).look(0, 1, 7).look(0, 2, 0).look(0, 11, 0).line(0, "bc          ");
    }
}
