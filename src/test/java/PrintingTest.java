/** Terms: PRINTING, and b, which prints again. */
public final class PrintingTest {
    public static void main(String[] args) {
        Sentence.holds("PRINTING a code: if the cursor is full, its column becomes 0 first, and a feeding follows.",
            PrintingTest::ifTheCursorIsFull);
        Sentence.holds("With INSERT the cells from the cursor on move one to the right, the last one is lost.",
            PrintingTest::withInsert);
        Sentence.holds("With INSERT the cells from the cursor on move one to the right, the last one is lost.",
            PrintingTest::withInsertIfTheCursorIsFull);
        Sentence.holds("The cell at the cursor gets the code and the pen.", PrintingTest::theCellGetsTheCodeAndThePen);
        Sentence.holds("Then the column grows by 1; from column 11 it does not, and the cursor becomes full if WRAP is on.",
            PrintingTest::theColumnGrows);
        Sentence.holds("Then the column grows by 1; from column 11 it does not, and the cursor becomes full if WRAP is on.",
            PrintingTest::withoutWrap);
        Sentence.holds("b prints the code printed last n times, but not more than 24 times;", PrintingTest::again);
        Sentence.holds("b prints the code printed last n times, but not more than 24 times;", PrintingTest::notMoreThan24Times);
        Sentence.holds("b prints the code printed last n times, but not more than 24 times;", PrintingTest::whatWasPrintedLast);
        Sentence.holds("nothing if none was printed.", PrintingTest::nothingIfNoneWasPrinted);
        Probe.finish();
    }

    private static void ifTheCursorIsFull() {
        for (Spot spot : Spot.all()) {
            boolean scrolls = spot.row() == spot.bottom();
            int row = scrolls || spot.row() == 7 ? spot.row() : spot.row() + 1;
            StringBuilder rows = new StringBuilder(scrolls ? spot.movedUp(spot.top(), 1) : Probe.ALL_ROWS);
            rows.setCharAt(row, 'y');
            Probe probe = spot.filled("full", 11).pack("x").cursor(spot.row(), 11, true).pack("y").cursor(row, 1);
            probe.firstColumn(rows.toString()).cells('x', 0, 1).code(scrolls ? spot.row() - 1 : spot.row(), 11, 'x');
        }
    }

    private static void withInsert() {
        for (int column = 0; column < 12; column++) {
            StringBuilder row = new StringBuilder(Probe.ALL_COLUMNS).insert(column, 'X').deleteCharAt(12);
            Probe probe = new Probe("in column " + column).fillRow().seq("4h", (column + 1) + "G").pack("X");
            probe.line(0, row.toString()).line(1, Probe.BLANK_LINE).cursor(0, Math.min(11, column + 1), column == 11);
        }
        Probe below = new Probe("other rows stay").fill().seq("4h", "4;5H").pack("X").line(3, "ddddXddddddd");
        below.firstColumn(Probe.ALL_ROWS).line(2, "cccccccccccc").line(4, "eeeeeeeeeeee");
        Probe looks = new Probe("looks move along").seq("1m").pack("a").seq("4m").pack("b").seq("0;7m", "4h").pack("\rc");
        looks.look(0, 0, 4).look(0, 1, 1).look(0, 2, 3).look(0, 3, 0).line(0, "cab         ");
        Probe off = new Probe("INSERT off").fillRow().seq("4h", "4l", "H").pack("X").line(0, "Xbcdefghijkl");
        off.cursor(0, 1);
    }

    private static void withInsertIfTheCursorIsFull() {
        Probe probe = new Probe("the next row's cells move").fill().seq("4h", "4;12H").pack("X").cursor(3, 11, true);
        probe.pack("Y").cursor(4, 1).line(3, "dddddddddddX").line(4, "Yeeeeeeeeeee");
    }

    private static void theCellGetsTheCodeAndThePen() {
        Probe probe = new Probe("code and pen").pack("a").seq("1;36;45m").pack("b").seq("m").pack("c");
        probe.look(0, 0, 0).look(0, 1, 1 + 56 + 768).look(0, 2, 0).pen(0).line(0, "abc         ");
        probe.seq("7m").pack("\ra").look(0, 0, 4).look(0, 1, 1 + 56 + 768).code(0, 0, 'a');
        new Probe("a wrong letter gets the pen").seq("4m").bytes(255).code(0, 0, 65533).look(0, 0, 2);
        new Probe("a space gets the pen").seq("4m").pack(" ").code(0, 0, 32).look(0, 0, 2);
        new Probe("the last cell").seq("8;12H", "7m").pack("x").code(7, 11, 'x').look(7, 11, 4);
    }

    private static void theColumnGrows() {
        for (int column = 0; column < 12; column++) {
            Probe probe = new Probe("from column " + column).seq("3;" + (column + 1) + "H").pack("x");
            probe.cursor(2, Math.min(11, column + 1), column == 11).code(2, column, 'x').cells(32, 0, 95);
        }
    }

    private static void withoutWrap() {
        Probe off = new Probe("WRAP off").seq("?7l").pack("abcdefghijk").cursor(0, 11, false).pack("l").cursor(0, 11, false);
        off.pack("mn").cursor(0, 11, false).line(0, "abcdefghijkn").line(1, Probe.BLANK_LINE);
        off.seq("?7h").cursor(0, 11, false).pack("o").cursor(0, 11, true).line(0, "abcdefghijko");
        off.pack("p").cursor(1, 1).line(1, "p           ");
        Probe insert = new Probe("WRAP off, INSERT on").seq("?7l").pack(Probe.ALL_COLUMNS).seq("4h").pack("XY");
        insert.line(0, "abcdefghijkY").cursor(0, 11, false);
        Probe last = new Probe("WRAP off in the last cell").fill().seq("?7l", "8;12H").pack("xy").cursor(7, 11, false);
        last.firstColumn(Probe.ALL_ROWS).line(7, "hhhhhhhhhhhy");
        new Probe("WRAP off while full").fillRow().seq("?7l").cursor(0, 11, true).pack("m").cursor(1, 1).code(1, 0, 'm');
    }

    private static void again() {
        new Probe("b").pack("a").seq("b").line(0, "aa          ").cursor(0, 2);
        new Probe("0b").pack("a").seq("0b").line(0, "aa          ");
        new Probe("3b").pack("xa").seq("3b").line(0, "xaaaa       ").cursor(0, 5);
        new Probe("b with another pen").pack("a").seq("1m", "2b").cells('a', 1, 2).cells('a', 0, 1);
        new Probe("b behind a move").pack("a").seq("3;3H", "b").code(2, 2, 'a').cursor(2, 3);
        new Probe("b with INSERT").pack("yx\r").seq("4h", "2b").line(0, "xxyx        ");
        new Probe("b without WRAP").seq("?7l").pack("a").seq("24b").line(0, "a".repeat(12)).cursor(0, 11, false);
        new Probe("b if full").fillRow().seq("b").line(1, "l           ").cursor(1, 1);
        new Probe("b scrolls").fill().seq("8;12H").pack("x").seq("13b").firstColumn("cdefghxx").cursor(7, 1);
    }

    private static void notMoreThan24Times() {
        for (int times = 1; times < 40; times++) {
            int printed = Math.min(times, 24);
            Probe probe = new Probe(times + "b").pack("a").seq(times + "b").cells('a', 0, 1 + printed);
            boolean full = printed % 12 == 11;
            probe.cursor(full ? printed / 12 : (printed + 1) / 12, full ? 11 : (printed + 1) % 12, full);
        }
        new Probe("9999b").pack("a").seq("9999b").cells('a', 0, 25).cursor(2, 1);
        new Probe("24b twice").pack("a").seq("24b", "24b").cells('a', 0, 49).cursor(4, 1);
    }

    private static void whatWasPrintedLast() {
        new Probe("a long letter").bytes(0xe2, 0x82, 0xac).seq("2b").cells(0x20ac, 0, 3);
        new Probe("a stray byte").bytes('a', 255).seq("b").cells(65533, 0, 2);
        new Probe("a letter that was cut").bytes('a', 0xc3).seq("b").cells(65533, 0, 2).cells('a', 0, 1);
        new Probe("a wrong letter").bytes('a', 0xed, 0xa0, 0x80).seq("b").cells(65533, 0, 2);
        new Probe("b itself").pack("a").seq("2b", "2b").cells('a', 0, 5);
        new Probe("a space").seq("1m").pack("a ").seq("b").cells(32, 1, 2);
        new Probe("what is cleared was printed").pack("a").seq("2J", "b").line(0, " a          ");
        new Probe("on the other page").pack("a").seq("?47h", "b").line(0, " a          ");
        new Probe("what is saved is not the letter").pack("a").esc("7").pack("b").esc("8").seq("b").line(0, "ab          ");
        new Probe("a title is not printed").pack("a").esc("]b\7").seq("b").line(0, "aa          ");
    }

    private static void nothingIfNoneWasPrinted() {
        new Probe("b").seq("b", "24b", "9999b").atFirst();
        new Probe("b behind other bytes").pack("\n\7").esc("]t\7").seq("3;3H", "J", "@", "b").cursor(2, 2).cells(32, 0, 96);
        new Probe("b while a letter is open prints it wrong").bytes(0xc3).seq("b").cells(65533, 0, 2);
    }
}
