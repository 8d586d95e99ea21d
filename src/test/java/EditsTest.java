/** The sequences that clear, put in, take out and scroll; promises 13 to 15. */
public final class EditsTest {
    private static final String ALL = "abcdefgh";

    public static void main(String[] args) {
        clearInPage();
        clearInRow();
        clearCells();
        putInCells();
        takeOutCells();
        putInRows();
        takeOutRows();
        scrolls();
        blanksHaveNoLook();
        looksMoveWithCodes();
        cellsThatAreNot();
        counts();
        Probe.finish();
    }

    /** A full page of letters with the cursor at a cell. */
    private static Probe at(String what, int row, int column) {
        return new Probe(what).fill().pack(Probe.CSI + (row + 1) + ";" + (column + 1) + "H");
    }

    /** Row 0 holds abcdefghijkl, the cursor is in it. */
    private static Probe inRow(String what, int column) {
        return new Probe(what).send("abcdefghijkl" + Probe.CSI + (column + 1) + "G");
    }

    private static void clearInPage() {
        for (String zero : new String[] {"J", "0J", ";2J"}) {
            Probe probe = at(zero, 3, 4).send(Probe.CSI + zero).cursor(3, 4).firstColumn("abcd    ");
            probe.line(3, "dddd        ").line(2, "cccccccccccc").cells(32, 0, 56);
        }
        Probe one = at("1J", 3, 4).send(Probe.CSI + "1J").cursor(3, 4).firstColumn("    efgh");
        one.line(3, "     ddddddd").line(4, "eeeeeeeeeeee").cells(32, 0, 41);
        at("2J", 3, 4).send(Probe.CSI + "2J").cursor(3, 4).cells(32, 0, 96);
        at("J at the beginning", 0, 0).send(Probe.CSI + "J").cells(32, 0, 96);
        at("J at the end", 7, 11).send(Probe.CSI + "J").cells(32, 0, 1).line(7, "hhhhhhhhhhh ");
        at("1J at the beginning", 0, 0).send(Probe.CSI + "1J").cells(32, 0, 1).line(0, " aaaaaaaaaaa");
        at("1J at the end", 7, 11).send(Probe.CSI + "1J").cells(32, 0, 96);
        at("3J", 3, 4).send(Probe.CSI + "3J" + Probe.CSI + "9999J" + Probe.CSI + "?J" + Probe.CSI + "?2J").cells(32, 0, 0);
        Probe region = at("J looks at no region", 3, 4).send(Probe.CSI + "4;5r" + Probe.CSI + "4;5H" + Probe.CSI + "J");
        region.firstColumn("abcd    ");
    }

    private static void clearInRow() {
        at("K", 3, 4).send(Probe.CSI + "K").cursor(3, 4).line(3, "dddd        ").cells(32, 0, 8);
        at("0K", 3, 4).send(Probe.CSI + "0K").line(3, "dddd        ").cells(32, 0, 8);
        at("1K", 3, 4).send(Probe.CSI + "1K").cursor(3, 4).line(3, "     ddddddd").cells(32, 0, 5);
        at("2K", 3, 4).send(Probe.CSI + "2K").cursor(3, 4).line(3, Probe.BLANK_LINE).cells(32, 0, 12);
        at("3K", 3, 4).send(Probe.CSI + "3K" + Probe.CSI + "9999K" + Probe.CSI + "?2K").cells(32, 0, 0);
        at("K in column 0", 7, 0).send(Probe.CSI + "K").line(7, Probe.BLANK_LINE).cells(32, 0, 12);
        at("K in column 11", 7, 11).send(Probe.CSI + "K").line(7, "hhhhhhhhhhh ").cells(32, 0, 1);
        at("1K in column 0", 0, 0).send(Probe.CSI + "1K").line(0, " aaaaaaaaaaa").cells(32, 0, 1);
    }

    private static void clearCells() {
        inRow("X", 3).send(Probe.CSI + "X").line(0, "abc efghijkl").cursor(0, 3);
        inRow("0X", 3).send(Probe.CSI + "0X").line(0, "abc efghijkl");
        inRow("4X", 3).send(Probe.CSI + "4X").line(0, "abc    hijkl").cursor(0, 3);
        inRow("9X", 3).send(Probe.CSI + "9X").line(0, "abc         ");
        at("9999X", 3, 3).send(Probe.CSI + "9999X").line(3, "ddd         ").cells(32, 0, 9);
        at("X at the end", 7, 11).send(Probe.CSI + "2X").line(7, "hhhhhhhhhhh ").cells(32, 0, 1);
    }

    private static void putInCells() {
        inRow("@", 3).send(Probe.CSI + "@").line(0, "abc defghijk").cursor(0, 3);
        inRow("0@", 3).send(Probe.CSI + "0@").line(0, "abc defghijk");
        inRow("4@", 3).send(Probe.CSI + "4@").line(0, "abc    defgh");
        inRow("8@", 3).send(Probe.CSI + "8@").line(0, "abc        d");
        inRow("9@", 3).send(Probe.CSI + "9@").line(0, "abc         ");
        at("9999@", 3, 3).send(Probe.CSI + "9999@").line(3, "ddd         ").cells(32, 0, 9);
        inRow("@ in column 11", 11).send(Probe.CSI + "@").line(0, "abcdefghijk ");
        inRow("@ in column 0", 0).send(Probe.CSI + "2@").line(0, "  abcdefghij");
    }

    private static void takeOutCells() {
        inRow("P", 3).send(Probe.CSI + "P").line(0, "abcefghijkl ").cursor(0, 3);
        inRow("0P", 3).send(Probe.CSI + "0P").line(0, "abcefghijkl ");
        inRow("4P", 3).send(Probe.CSI + "4P").line(0, "abchijkl    ");
        inRow("8P", 3).send(Probe.CSI + "8P").line(0, "abcl        ");
        inRow("9P", 3).send(Probe.CSI + "9P").line(0, "abc         ");
        at("9999P", 3, 3).send(Probe.CSI + "9999P").line(3, "ddd         ").cells(32, 0, 9);
        inRow("P in column 11", 11).send(Probe.CSI + "P").line(0, "abcdefghijk ");
        at("P takes none of the next row", 3, 0).send(Probe.CSI + "P").line(3, "ddddddddddd ").line(4, "eeeeeeeeeeee");
    }

    /** A full page, the region 2 .. 5, and the cursor in a row of column 3. */
    private static Probe inRegion(String what, int row) {
        return new Probe(what).fill().pack(Probe.CSI + "3;6r" + Probe.CSI + (row + 1) + ";4H");
    }

    private static void putInRows() {
        at("L", 3, 4).send(Probe.CSI + "L").firstColumn("abc defg").cursor(3, 4).cells(32, 0, 12);
        at("3L", 3, 4).send(Probe.CSI + "3L").firstColumn("abc   de").cursor(3, 4);
        at("9999L", 3, 4).send(Probe.CSI + "9999L").firstColumn("abc     ");
        inRegion("L in top", 2).send(Probe.CSI + "L").firstColumn("ab cdegh").cursor(2, 3);
        inRegion("2L in the midst", 3).send(Probe.CSI + "2L").firstColumn("abc  dgh");
        inRegion("L in bottom", 5).send(Probe.CSI + "L").firstColumn("abcde gh");
        inRegion("9L", 2).send(Probe.CSI + "9L").firstColumn("ab    gh");
        inRegion("L above", 1).send(Probe.CSI + "L").firstColumn(ALL).cursor(1, 3);
        inRegion("L below", 6).send(Probe.CSI + "L").firstColumn(ALL).cursor(6, 3);
    }

    private static void takeOutRows() {
        at("M", 3, 4).send(Probe.CSI + "M").firstColumn("abcefgh ").cursor(3, 4).cells(32, 0, 12);
        at("3M", 3, 4).send(Probe.CSI + "3M").firstColumn("abcgh   ").cursor(3, 4);
        at("9999M", 3, 4).send(Probe.CSI + "9999M").firstColumn("abc     ");
        inRegion("M in top", 2).send(Probe.CSI + "M").firstColumn("abdef gh").cursor(2, 3);
        inRegion("2M in the midst", 3).send(Probe.CSI + "2M").firstColumn("abcf  gh");
        inRegion("M in bottom", 5).send(Probe.CSI + "M").firstColumn("abcde gh");
        inRegion("9M", 2).send(Probe.CSI + "9M").firstColumn("ab    gh");
        inRegion("M above", 1).send(Probe.CSI + "M").firstColumn(ALL).cursor(1, 3);
        inRegion("M below", 6).send(Probe.CSI + "M").firstColumn(ALL).cursor(6, 3);
    }

    private static void scrolls() {
        at("S", 3, 4).send(Probe.CSI + "S").firstColumn("bcdefgh ").cursor(3, 4).cells(32, 0, 12);
        at("T", 3, 4).send(Probe.CSI + "T").firstColumn(" abcdefg").cursor(3, 4).cells(32, 0, 12);
        at("0S and 0T", 3, 4).send(Probe.CSI + "0S").firstColumn("bcdefgh ").send(Probe.CSI + "0T").firstColumn(" bcdefgh");
        at("7S", 3, 4).send(Probe.CSI + "7S").firstColumn("h       ");
        at("7T", 3, 4).send(Probe.CSI + "7T").firstColumn("       a");
        at("9999S", 3, 4).send(Probe.CSI + "9999S").cells(32, 0, 96);
        at("9999T", 3, 4).send(Probe.CSI + "9999T").cells(32, 0, 96);
        inRegion("S in a region, cursor outside", 7).send(Probe.CSI + "S").firstColumn("abdef gh").cursor(7, 3);
        inRegion("2T in a region, cursor outside", 0).send(Probe.CSI + "2T").firstColumn("ab  cdgh").cursor(0, 3);
        inRegion("9S in a region", 3).send(Probe.CSI + "9S").firstColumn("ab    gh");
        inRegion("9T in a region", 3).send(Probe.CSI + "9T").firstColumn("ab    gh");
    }

    private static void blanksHaveNoLook() {
        String[] sequences = {"J", "1J", "2J", "K", "1K", "2K", "X", "3X", "@", "3@", "P", "3P", "L", "M", "S", "T"};
        for (String sequence : sequences) {
            Probe probe = new Probe("look of " + sequence).pack(Probe.CSI + "1;4;7;33;44m").fill();
            probe.pack(Probe.CSI + "4;5H" + Probe.CSI + sequence);
            Probe.same("blanks of " + sequence, probe.desk.cells(32, -1), probe.desk.cells(32, 0));
            Probe.same("some blanks of " + sequence, probe.desk.cells(32, 0) > 0, true);
        }
    }

    private static void looksMoveWithCodes() {
        Probe probe = new Probe("looks move").send(Probe.CSI + "1m" + "a" + Probe.CSI + "4m" + "b" + Probe.CSI + "7m" + "c\r");
        probe.send(Probe.CSI + "2@").look(0, 0, 0).look(0, 1, 0).look(0, 2, 1).look(0, 3, 3).look(0, 4, 7);
        probe.send(Probe.CSI + "3P").look(0, 0, 3).look(0, 1, 7).look(0, 2, 0).line(0, "bc          ");
        probe.send(Probe.CSI + "L").look(0, 0, 0).look(1, 0, 3).look(1, 1, 7);
        probe.send(Probe.CSI + "T").look(2, 0, 3).send(Probe.CSI + "2S").look(0, 0, 3).look(0, 1, 7).look(2, 0, 0);
        probe.send(Probe.CSI + "T" + Probe.CSI + "M").look(0, 0, 3).cells('b', 3, 1).cells('c', 7, 1);
    }

    private static void cellsThatAreNot() {
        Probe probe = new Probe("no such cell");
        probe.noCell(-1, 0).noCell(0, -1).noCell(8, 0).noCell(0, 12).noCell(-1, 12).noCell(1, -12).noCell(7, 12).noCell(8, 11);
        probe.noCell(Integer.MIN_VALUE, 0).noCell(0, Integer.MIN_VALUE).noCell(Integer.MAX_VALUE, 0);
        probe.noCell(0, Integer.MAX_VALUE).noCell(Integer.MIN_VALUE, Integer.MAX_VALUE).noCell(1 << 30, 4).noCell(1, 1 << 31);
        probe.code(0, 0, 32).code(7, 11, 32).look(0, 0, 0).look(7, 11, 0).code(7, 0, 32).code(0, 11, 32);
        probe.send(Probe.CSI + "8;12H" + Probe.CSI + "7m" + "x").code(7, 11, 'x').look(7, 11, 4);
    }

    private static void counts() {
        Probe probe = new Probe("cells").cells(32, 0, 96).cells(32, -1, 96).cells(32, 1, 0).cells('a', -1, 0);
        probe.send("aa" + Probe.CSI + "1m" + "ab " + Probe.CSI + "31m" + "a");
        probe.cells('a', -1, 4).cells('a', 0, 2).cells('a', 1, 1).cells('a', 17, 1).cells('a', 16, 0).cells('b', 1, 1);
        probe.cells(32, -1, 91).cells(32, 0, 90).cells(32, 1, 1).cells('a', Integer.MIN_VALUE, 4).cells('a', -2, 4);
        probe.cells(-1, -1, 0).cells(Integer.MAX_VALUE, -1, 0).cells(Integer.MIN_VALUE, 0, 0).cells('a', Integer.MAX_VALUE, 0);
        probe.send(Probe.CSI + "?47h").cells('a', -1, 0).cells(32, 0, 96).send("a").cells('a', 17, 1);
        probe.send(Probe.CSI + "?47l").cells('a', -1, 4);
    }
}
