/** Terms: pages, cells, the cursor, and the words for what else a desk holds. */
public final class PagesTest {
    public static void main(String[] args) {
        Sentence.holds("PAGES 0 and 1 have 8 ROWS of 12 CELLS each; rows and columns are counted from 0.",
            PagesTest::eightRowsOfTwelveCells);
        Sentence.holds("A cell has a CODE and a LOOK; BLANK is code 32 with look 0.", PagesTest::blankIsCode32WithLook0);
        Sentence.holds("One page is SHOWN, and all is done on it.", PagesTest::allIsDoneOnThePageShown);
        Sentence.holds("The CURSOR has a row and a column, and may be FULL (in column 11 alone: the next letter begins a row).",
            PagesTest::fullInColumn11Alone);
        Sentence.holds("To PLACE it is to give it a row and a column; it is not full then.", PagesTest::placedIsNotFull);
        Sentence.holds("To PLACE it is to give it a row and a column; it is not full then.",
            PagesTest::whatDoesNotPlaceLeavesFull);
        Sentence.holds("The PEN is a look.", PagesTest::thePenIsALook);
        Sentence.holds("The REGION is the rows from TOP to BOTTOM, top being less than bottom.",
            PagesTest::topIsLessThanBottom);
        Sentence.holds("A column has a TAB STOP or not.", PagesTest::everyColumnHasATabStopOrNot);
        Sentence.holds("The MODES are INSERT, ORIGIN and WRAP, on or off.", PagesTest::modesAreOnOrOff);
        Sentence.holds("SAVED are the cursor (full or not), the pen and ORIGIN.", PagesTest::whatIsSaved);
        Sentence.holds("SAVED are the cursor (full or not), the pen and ORIGIN.", PagesTest::whatIsNotSaved);
        Sentence.holds("A look is 1 if bold, 2 more if underlined, 4 more if reversed, 8 times its colour 0 .. 8 more, "
            + "and 128 times its ground 0 .. 8 more.", PagesTest::everyLook);
        Probe.finish();
    }

    private static void eightRowsOfTwelveCells() {
        for (String page : new String[] {"?47l", "?47h"}) {
            Probe probe = new Probe("page by " + page).seq(page).cells(32, 0, 96).fill().cells(32, -1, 0);
            for (int row = 0; row < 8; row++) {
                probe.line(row, Probe.ALL_ROWS.substring(row, row + 1).repeat(12));
            }
            probe.noCell(-1, 0).noCell(8, 0).noCell(0, -1).noCell(0, 12).noCell(7, 12).noCell(8, 11).noCell(1, -1);
        }
    }

    private static void blankIsCode32WithLook0() {
        new Probe("new").code(0, 0, 32).look(0, 0, 0).code(7, 11, 32).look(7, 11, 0);
        String[] sequences = {"J", "1J", "2J", "K", "1K", "2K", "X", "3X", "@", "3@", "P", "3P", "L", "M", "S", "T"};
        for (String sequence : sequences) {
            Probe probe = new Probe(sequence).seq("1;4;7;33;44m").fill().seq("4;5H", sequence);
            Probe.same("some blanks by " + sequence, probe.desk.cells(32, 0) > 0, true);
            Probe.same("blanks by " + sequence, probe.desk.cells(32, -1), probe.desk.cells(32, 0));
        }
        new Probe("a printed space with a pen is not blank").seq("1m").pack(" ").cells(32, 0, 95).cells(32, 1, 1);
    }

    private static void allIsDoneOnThePageShown() {
        String[] pieces = {"xyz", "\033[4hx", "\033[J", "\033[1J", "\033[2J", "\033[K", "\033[X", "\033[@", "\033[P", "\033[L",
            "\033[M", "\033[S", "\033[T", "\033[3b", "\n\n\n\n\n\n\n\n", "\033M\033M\033M\033M\033M\033M"};
        for (String piece : pieces) {
            Probe probe = new Probe("on page 1").fill().seq("4;5H", "?47h").cells(32, 0, 96).pack(piece);
            probe.seq("?47l").firstColumn(Probe.ALL_ROWS).cells(32, -1, 0);
            for (int row = 0; row < 8; row++) {
                probe.cells('a' + row, 0, 12);
            }
        }
        Probe probe = new Probe("asked of the page shown").seq("7m").pack("a").seq("?47h").code(0, 0, 32).look(0, 0, 0);
        probe.cells('a', -1, 0).pack("b").code(0, 1, 'b').look(0, 1, 4).cells('b', 4, 1);
        probe.seq("?47l").code(0, 0, 'a').look(0, 0, 4).cells('a', 4, 1).cells('b', -1, 0).code(0, 1, 32).look(0, 1, 0);
    }

    private static void fullInColumn11Alone() {
        Probe probe = new Probe("a row of letters");
        for (int column = 0; column < 12; column++) {
            probe.cursor(0, column).pack("x");
        }
        probe.cursor(0, 11, true).pack("y").cursor(1, 1).line(0, "x".repeat(12)).line(1, "y           ");
        new Probe("column 11 need not be full").seq("12G").cursor(0, 11, false).pack("x").cursor(0, 11, true);
    }

    private static void placedIsNotFull() {
        String[] stays = {"\033[A", "\033[C", "\033[9999C", "\033[12G", "\033[d", "\033[1;12H", "\033[1;12f", "\t"};
        for (String piece : stays) {
            Probe probe = new Probe("placed by " + piece).fillRow().pack(piece).cursor(0, 11, false);
            probe.pack("x").line(0, "abcdefghijkx").cursor(0, 11, true);
        }
        String[] toColumn0 = {"\r", "\033[F", "\033[H", "\033[f", "\033[r", "\033[?6h", "\033[?6l", "\033[9999D", "\033[G"};
        for (String piece : toColumn0) {
            new Probe("placed by " + piece).fillRow().pack(piece).cursor(0, 0, false);
        }
        new Probe("B").fillRow().seq("B").cursor(1, 11, false);
        new Probe("B in row 7").seq("8H").fillRow().seq("B").cursor(7, 11, false);
        new Probe("D").fillRow().seq("D").cursor(0, 10, false);
        new Probe("E").fillRow().seq("E").cursor(1, 0, false);
        new Probe("8").fillRow().pack("\b").cursor(0, 10, false);
    }

    private static void whatDoesNotPlaceLeavesFull() {
        String[] sequences = {"J", "1J", "2J", "K", "1K", "2K", "X", "@", "P", "L", "M", "S", "T", "m", "s", "g", "3g", "h",
            "4h", "4l", "5n", "6n", "?7h", "?7l", "?47h", "?47l", "9J", "z", "?h", "?H", "5;5r", "1 H"};
        for (String sequence : sequences) {
            new Probe(sequence + " leaves full").fillRow().seq(sequence).cursor(0, 11, true);
        }
        new Probe("a bell leaves full").fillRow().pack("\7").cursor(0, 11, true);
        new Probe("ESCAPE 7, H and = leave full").fillRow().esc("7").esc("H").esc("=").cursor(0, 11, true);
        new Probe("a title leaves full").fillRow().esc("]a\7").cursor(0, 11, true);
        new Probe("WRAP off leaves full").fillRow().seq("?7l").pack("m").cursor(1, 1).code(1, 0, 'm');
    }

    private static void thePenIsALook() {
        Probe probe = new Probe("pen").seq("1;4;7;37;47m").pen(7 + 64 + 1024).pack("a").look(0, 0, 7 + 64 + 1024);
        probe.seq("m").pen(0).pack("b").look(0, 1, 0).look(0, 0, 7 + 64 + 1024);
    }

    private static void topIsLessThanBottom() {
        for (int top = 0; top < 9; top++) {
            for (int bottom = 0; bottom < 9; bottom++) {
                boolean stands = top < bottom && bottom < 8;
                Probe probe = new Probe("r of " + top + " to " + bottom).seq((top + 1) + ";" + (bottom + 1) + "r");
                probe.region(stands ? top : 0, stands ? bottom : 7);
            }
        }
    }

    private static void everyColumnHasATabStopOrNot() {
        for (int column = 0; column < 12; column++) {
            Probe probe = new Probe("column " + column).seq("3g").tabs("............");
            String one = ".".repeat(column) + "T" + ".".repeat(11 - column);
            probe.seq((column + 1) + "G").esc("H").tabs(one).esc("H").tabs(one).seq("g").tabs("............");
        }
    }

    private static void modesAreOnOrOff() {
        new Probe("INSERT").mode(0, 0).seq("4h").mode(0, 1).seq("4h").mode(0, 1).mode(1, 0).mode(2, 1).seq("4l").mode(0, 0);
        new Probe("ORIGIN").mode(1, 0).seq("?6h").mode(1, 1).seq("?6h").mode(1, 1).mode(0, 0).mode(2, 1).seq("?6l").mode(1, 0);
        new Probe("WRAP").mode(2, 1).seq("?7l").mode(2, 0).seq("?7l").mode(2, 0).mode(0, 0).mode(1, 0).seq("?7h").mode(2, 1);
    }

    private static void whatIsSaved() {
        Probe probe = new Probe("saved").seq("3;4H", "1;31m").esc("7").cursor(2, 3).pen(17);
        probe.pack("xyz\n").seq("m").esc("8").cursor(2, 3).pen(17).seq("H").esc("8").cursor(2, 3);
        Probe full = new Probe("full is saved").fillRow().esc("7").cursor(0, 11, true).pack("\r").esc("8");
        full.cursor(0, 11, true).pack("m").cursor(1, 1);
        Probe notFull = new Probe("not full is saved").seq("12G").esc("7").pack("x").cursor(0, 11, true);
        notFull.esc("8").cursor(0, 11, false);
        Probe on = new Probe("ORIGIN on").seq("2;4r", "?6h").esc("7").seq("?6l").mode(1, 0).cursor(0, 0);
        on.esc("8").mode(1, 1).cursor(1, 0);
        Probe off = new Probe("ORIGIN off").seq("2;4r", "7H").esc("7").seq("?6h").mode(1, 1).esc("8").mode(1, 0);
        off.cursor(6, 0);
    }

    private static void whatIsNotSaved() {
        Probe probe = new Probe("not saved").esc("7").seq("4h", "?7l", "2;3r", "3g", "?47h").esc("8");
        probe.mode(0, 1).mode(2, 0).mode(3, 1).region(1, 2).tabs("............");
        Probe raw = new Probe("beyond the region").seq("8;1H").esc("7").seq("2;4r").esc("8").cursor(7, 0);
        raw.seq("?6h").esc("8").cursor(7, 0).mode(1, 0);
        Probe pages = new Probe("one cursor for both pages").pack("ab").esc("7").seq("?47h").pack("cd").esc("8");
        pages.cursor(0, 2).seq("?47l").cursor(0, 2);
    }

    private static void everyLook() {
        for (int kind = 0; kind < 8; kind++) {
            for (int colour = 0; colour < 9; colour++) {
                for (int ground = 0; ground < 9; ground++) {
                    String sequence = ((kind & 1) > 0 ? "1" : "22") + ";" + ((kind & 2) > 0 ? "4" : "24") + ";"
                        + ((kind & 4) > 0 ? "7" : "27") + ";" + (colour > 0 ? 29 + colour : 39) + ";"
                        + (ground > 0 ? 39 + ground : 49) + "m";
                    int look = kind + 8 * colour + 128 * ground;
                    new Probe(sequence).seq(sequence).pen(look).pack("a").look(0, 0, look).cells('a', look, 1)
                        .seq("1;4;7;33;44m", sequence).pen(look);
                }
            }
        }
    }
}
