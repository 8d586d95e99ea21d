/** Terms: ESCAPE, and s and u, which do as two of its bytes. */
public final class EscapeTest {
    public static void main(String[] args) {
        Sentence.holds("ESCAPE: [ leads to SEQUENCE, without numbers;", EscapeTest::toSequenceWithoutNumbers);
        Sentence.holds("] to TITLE, with nothing collected;", EscapeTest::toTitleWithNothingCollected);
        Sentence.holds("32 .. 47 to WASTE;", EscapeTest::toWaste);
        Sentence.holds("all others to GROUND, and:", EscapeTest::allOthersToGround);
        Sentence.holds("7 the cursor, the pen and ORIGIN are saved;", EscapeTest::saved);
        Sentence.holds("8 they become what is saved;", EscapeTest::becomeWhatIsSaved);
        Sentence.holds("D a feeding;", EscapeTest::feeding);
        Sentence.holds("E the cursor is placed at column 0, and a feeding;", EscapeTest::column0AndAFeeding);
        Sentence.holds("H its column gets a tab stop;", EscapeTest::tabStop);
        Sentence.holds("M a backing;", EscapeTest::backing);
        Sentence.holds("s as ESCAPE 7, u as 8.", EscapeTest::savedBySequences);
        Probe.finish();
    }

    private static void toSequenceWithoutNumbers() {
        new Probe("[").send("\033[").state(2);
        new Probe("numbers of the one before").seq("5;5H", "H").cursor(0, 0);
        new Probe("numbers of a broken one").send("\033[5;5\033[H").cursor(0, 0);
        new Probe("a number of a broken one goes not on").send("\033[1\033[2G").cursor(0, 1);
        new Probe("? of a broken one").send("\033[?\033[5G").cursor(0, 4);
        new Probe("? of the one before").seq("?7l", "4h").mode(0, 1);
        new Probe("how many were begun before").seq("1;4m", "7m").pen(7).seq("m").pen(0);
        new Probe("none is begun").seq("4;4h", "l").mode(0, 1).seq("4;4l", "h").mode(0, 0);
    }

    private static void toTitleWithNothingCollected() {
        new Probe("]").send("\033]").state(4).send("\7").title("").state(0);
        new Probe("a title of before").esc("]old\7").esc("]\7").title("");
        new Probe("what a broken one collected").send("\033]gone\033]new\7").title("new");
        new Probe("sixteen of a broken one").send("\033]abcdefghijklmnop\033]x\7").title("x");
        new Probe("] alone changes no title").esc("]old\7").esc("]").title("old");
    }

    private static void toWaste() {
        for (int b = 32; b < 48; b++) {
            new Probe("ESCAPE " + b).bytes(27, b).state(3).cells(32, 0, 96).cursor(0, 0);
        }
        new Probe("48 is beyond").bytes(27, 48).state(0);
    }

    private static void allOthersToGround() {
        for (int b = 48; b < 127; b++) {
            if (b != '[' && b != ']') {
                new Probe("ESCAPE " + b).fillRow().bytes(27, b).state(0);
            }
            if ("78DEHMc[]".indexOf(b) < 0) {
                Probe probe = new Probe("ESCAPE " + b + " does nothing").fill().seq("3;5r", "4;12H", "1m").pack("x").bytes(27, b);
                probe.cursor(3, 11, true).pen(1).region(2, 4).tabs("....T...T...").firstColumn(Probe.ALL_ROWS);
                probe.cells('x', 1, 1).cells(32, -1, 0).mode(0, 0).mode(1, 0).mode(2, 1).mode(3, 0).bells(0).title("").noReply();
                probe.pack("y").esc("8").cursor(0, 0).pen(0);
            }
        }
    }

    private static void saved() {
        Probe probe = new Probe("7").seq("3;4H", "1m").esc("7").cursor(2, 3).pen(1).state(0);
        probe.seq("5;6H", "4m").esc("7").cursor(4, 5).pen(3).seq("H", "m").esc("8").cursor(4, 5).pen(3);
        new Probe("7 of a full cursor").fillRow().esc("7").cursor(0, 11, true).pack("\r").esc("8").cursor(0, 11, true);
        new Probe("7 of ORIGIN").seq("3;5r", "?6h").esc("7").mode(1, 1).seq("?6l").esc("8").mode(1, 1).cursor(2, 0);
    }

    private static void becomeWhatIsSaved() {
        Probe twice = new Probe("8 twice").seq("3;4H", "1m").esc("7").seq("H", "m").esc("8").cursor(2, 3).pen(1).state(0);
        twice.seq("8;12H", "7m").esc("8").cursor(2, 3).pen(1);
        new Probe("8 though 7 was never").seq("3;4H", "1m", "?6h").esc("8").cursor(0, 0).pen(0).mode(1, 0);
        Probe full = new Probe("8 to full").seq("4H").fillRow().esc("7").seq("H").esc("8").cursor(3, 11, true);
        full.pack("x").cursor(4, 1).code(4, 0, 'x');
        new Probe("8 from full").esc("7").fillRow().esc("8").cursor(0, 0, false);
        Probe inColumn11 = new Probe("8 from full to column 11").seq("12G").esc("7").pack("x").full(true).esc("8");
        inColumn11.cursor(0, 11, false);
        Probe out = new Probe("8 goes beyond a new region").seq("8H").esc("7").seq("2;4r", "?6h").esc("8").cursor(7, 0);
        out.mode(1, 0).region(1, 3);
    }

    private static void feeding() {
        new Probe("D").pack("ab").esc("D").cursor(1, 2).state(0);
        new Probe("D in row 7").fill().seq("8;3H").esc("D").cursor(7, 2).firstColumn("bcdefgh ");
        new Probe("D in bottom").fill().seq("2;4r", "4H").esc("D").cursor(3, 0).firstColumn("acd efgh");
        new Probe("D below bottom").fill().seq("2;4r", "8H").esc("D").cursor(7, 0).firstColumn(Probe.ALL_ROWS);
        new Probe("D if full").fillRow().esc("D").cursor(1, 11, false);
    }

    private static void column0AndAFeeding() {
        new Probe("E").pack("abc").esc("E").cursor(1, 0).state(0);
        new Probe("E in row 7").fill().seq("8;5H").esc("E").cursor(7, 0).firstColumn("bcdefgh ");
        new Probe("E in bottom").fill().seq("2;4r", "4;5H").esc("E").cursor(3, 0).firstColumn("acd efgh");
        new Probe("E below bottom").fill().seq("2;4r", "8;5H").esc("E").cursor(7, 0).firstColumn(Probe.ALL_ROWS);
        new Probe("E if full").fillRow().esc("E").cursor(1, 0, false);
    }

    private static void tabStop() {
        Probe probe = new Probe("H").pack("ab").esc("H").tabs("..T.T...T...").cursor(0, 2).state(0).pack("\r\t").cursor(0, 2);
        probe.pack("\r").esc("H").tabs("T.T.T...T...").seq("12G").esc("H").tabs("T.T.T...T..T");
        new Probe("H where there is one").seq("5G").esc("H").tabs("....T...T...");
        new Probe("H if full").fillRow().esc("H").tabs("....T...T..T").cursor(0, 11, true);
    }

    private static void backing() {
        new Probe("M").pack("\n\nab").esc("M").cursor(1, 2).state(0);
        new Probe("M in row 0").fill().seq("3G").esc("M").cursor(0, 2).firstColumn(" abcdefg");
        new Probe("M in top").fill().seq("2;4r", "2H").esc("M").cursor(1, 0).firstColumn("a bcefgh");
        new Probe("M above top").fill().seq("3;5r").esc("M").cursor(0, 0).firstColumn(Probe.ALL_ROWS);
        new Probe("M below bottom").fill().seq("3;5r", "6H").esc("M").cursor(4, 0).firstColumn(Probe.ALL_ROWS);
        new Probe("M if full").pack("\n").fillRow().esc("M").cursor(0, 11, false);
    }

    private static void savedBySequences() {
        Probe probe = new Probe("s and u").pack("ab").seq("4m", "s").cursor(0, 2).pen(2).pack("\n\n").seq("m", "u");
        probe.cursor(0, 2).pen(2).pack("\r").seq("3;4u").cursor(0, 2).pack("c").seq("9s").pack("\r").esc("8").cursor(0, 3);
        probe.pack("\r").esc("7").pack("xyz").seq("u").cursor(0, 0);
        new Probe("s of a full cursor").fillRow().seq("s").cursor(0, 11, true).pack("\r").seq("u").cursor(0, 11, true);
        new Probe("s of ORIGIN").seq("3;5r", "?6h", "s", "?6l", "u").mode(1, 1).cursor(2, 0);
        new Probe("u though s was never").seq("3;4H", "1m", "?6h", "u").cursor(0, 0).pen(0).mode(1, 0);
        new Probe("PRIVATE s and u").pack("ab").seq("?s").pack("c").seq("?u").cursor(0, 3).seq("u").cursor(0, 0);
    }
}
