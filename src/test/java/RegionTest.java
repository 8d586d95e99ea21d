/** Terms: r, which sets the region. */
public final class RegionTest {
    public static void main(String[] args) {
        Sentence.holds("r: top n - 1, bottom q - 1 (7 if q is 0), if top is less and bottom at most 7;",
            RegionTest::topAndBottom);
        Sentence.holds("then the cursor is placed as by H without numbers;", RegionTest::thenTheCursorIsPlaced);
        Sentence.holds("else nothing. s as", RegionTest::elseNothing);
        Probe.finish();
    }

    private static void topAndBottom() {
        for (int p = 0; p < 12; p++) {
            for (int q = 0; q < 12; q++) {
                int top = p == 0 ? 0 : p - 1;
                int bottom = q == 0 ? 7 : q - 1;
                boolean stands = top < bottom && bottom <= 7;
                Probe probe = new Probe(p + ";" + q + "r").seq("3;4r", p + ";" + q + "r");
                probe.region(stands ? top : 2, stands ? bottom : 3);
            }
        }
        new Probe("r").seq("3;4r", "r").region(0, 7);
        new Probe("3r").seq("3r").region(2, 7).seq("4;r").region(3, 7).seq(";3r").region(0, 2).seq(";r").region(0, 7);
        Probe pages = new Probe("one region for both pages").seq("3;5r", "?47h").region(2, 4).seq("2;3r", "?47l").region(1, 2);
        pages.esc("7").seq("4;5r").esc("8").region(3, 4);
    }

    private static void thenTheCursorIsPlaced() {
        new Probe("r").seq("4;5H", "2;5r").cursor(0, 0);
        new Probe("the same region").seq("4;5H", "r").cursor(0, 0);
        new Probe("if full").seq("4H").fillRow().seq("2;5r").cursor(0, 0, false);
        new Probe("with ORIGIN").seq("?6h", "4;5H", "3;5r").region(2, 4).cursor(2, 0).seq("2;8r").cursor(1, 0);
        new Probe("nothing moves").fill().seq("3;5r").firstColumn(Probe.ALL_ROWS).cells(32, -1, 0);
    }

    private static void elseNothing() {
        String[] wrong = {"3;3r", "5;2r", "1;9r", "8r", "8;8r", "9r", "1;9999r", "1;1r", ";1r", "9999;9999r", "9;10r", "8;7r",
            "9999r", "1;10008r", "4294967297;2147483650r", "?1;3r", "?r"};
        for (String sequence : wrong) {
            new Probe(sequence).seq("2;5r", "2;3H", sequence).region(1, 4).cursor(1, 2);
            new Probe(sequence + " if full").seq("2;5r", "2H").fillRow().seq(sequence).region(1, 4).cursor(1, 11, true);
            new Probe(sequence + " with ORIGIN").seq("2;5r", "?6h", "2;3H", sequence).region(1, 4).cursor(2, 2).mode(1, 1);
        }
    }
}
