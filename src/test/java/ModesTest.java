/** Terms: g, h and l, PRIVATE or not. */
public final class ModesTest {
    public static void main(String[] args) {
        Sentence.holds("g: 0 the cursor's column has no tab stop, 3 no column has.", ModesTest::tabStopsGo);
        Sentence.holds("h and l turn on and off, for each number begun: 4 INSERT.", ModesTest::insert);
        Sentence.holds("PRIVATE ones: h and l, for each number begun:", ModesTest::forEachNumberBegun);
        Sentence.holds("6 ORIGIN, and the cursor is placed as by H without numbers;", ModesTest::origin);
        Sentence.holds("7 WRAP;", ModesTest::wrap);
        Sentence.holds("47 page 1 becomes blank and is shown if it was not,", ModesTest::pageOne);
        Sentence.holds("or (l) page 0 is shown.", ModesTest::pageZero);
        Probe.finish();
    }

    private static void tabStopsGo() {
        Probe probe = new Probe("0").seq("5G", "g").tabs("........T...").seq("g").tabs("........T...").cursor(0, 4);
        probe.seq("9G", "0g").tabs("............").cursor(0, 8);
        new Probe("3").seq("3;6H", "3g").tabs("............").cursor(2, 5).seq("3g").tabs("............");
        Probe all = new Probe("3 of all");
        for (int column = 1; column < 13; column++) {
            all.seq(column + "G").esc("H");
        }
        all.tabs("TTTTTTTTTTTT").seq("3g").tabs("............");
        new Probe("others").seq("5G", "1g", "2g", "4g", "5g", "9999g", "?g", "?0g", "?3g").tabs("....T...T...");
        new Probe("columns 0 and 11").esc("H").seq("12G").esc("H").tabs("T...T...T..T").seq("g").tabs("T...T...T...")
            .seq("1G", "g").tabs("....T...T...");
        new Probe("if full").seq("12G").esc("H").fillRow().seq("g").tabs("....T...T...").cursor(0, 11, true);
    }

    private static void insert() {
        Probe probe = new Probe("4").seq("3;6H", "4h").mode(0, 1).cursor(2, 5).seq("4h").mode(0, 1);
        probe.seq("4l").mode(0, 0).cursor(2, 5).seq("4l").mode(0, 0).mode(1, 0).mode(2, 1).mode(3, 0);
        new Probe("among others").seq("1;;4;20h").mode(0, 1).seq("4;4;3l").mode(0, 0).seq(";4h").mode(0, 1);
        new Probe("none begun").seq("h").mode(0, 0).seq("4h", "l").mode(0, 1);
        for (int number = 0; number < 60; number++) {
            if (number != 4) {
                new Probe(number + "h").seq(number + "h").mode(0, 0).mode(1, 0).mode(2, 1).mode(3, 0).seq("4h", number + "l")
                    .mode(0, 1).mode(1, 0).mode(2, 1).mode(3, 0);
            }
        }
    }

    private static void forEachNumberBegun() {
        Probe probe = new Probe("several").seq("2;5r", "?6;7;47l").mode(1, 0).mode(2, 0).mode(3, 0);
        probe.seq("?47;7;6h").mode(1, 1).mode(2, 1).mode(3, 1).cursor(1, 0).seq("?1;99;7l").mode(1, 1).mode(2, 0).mode(3, 1);
        new Probe("none begun").seq("?h").mode(1, 0).mode(2, 1).mode(3, 0).seq("?6;47h", "?l").mode(1, 1).mode(2, 1).mode(3, 1);
        for (int number = 0; number < 60; number++) {
            if (number != 6 && number != 7 && number != 47) {
                Probe other = new Probe("?" + number).seq("4h", "3;6H", "?" + number + "h", "?" + number + "l").cursor(2, 5);
                other.mode(0, 1).mode(1, 0).mode(2, 1).mode(3, 0);
            }
        }
    }

    private static void origin() {
        Probe probe = new Probe("6").seq("3;5r", "2;6H", "?6h").mode(1, 1).cursor(2, 0);
        probe.seq("2;6H", "?6h").mode(1, 1).cursor(2, 0).seq("2;6H", "?6l").mode(1, 0).cursor(0, 0);
        probe.seq("2;6H", "?6l").mode(1, 0).cursor(0, 0).mode(0, 0).mode(2, 1).mode(3, 0).region(2, 4);
        new Probe("of the whole").seq("4;6H", "?6h").mode(1, 1).cursor(0, 0);
        new Probe("on if full").fillRow().seq("?6h").cursor(0, 0, false);
        new Probe("off if full").fillRow().seq("?6l").cursor(0, 0, false);
    }

    private static void wrap() {
        Probe probe = new Probe("7").seq("3;6H", "?7l").mode(2, 0).cursor(2, 5).seq("?7l").mode(2, 0);
        probe.seq("?7h").mode(2, 1).cursor(2, 5).seq("?7h").mode(2, 1).mode(0, 0).mode(1, 0).mode(3, 0);
        new Probe("if full").fillRow().seq("?7l").cursor(0, 11, true).seq("?7h").cursor(0, 11, true);
    }

    private static void pageOne() {
        Probe probe = new Probe("47h").pack("abc").seq("?47h").mode(3, 1).cells(32, 0, 96).cursor(0, 3).mode(0, 0).mode(1, 0);
        probe.mode(2, 1).pack("x").line(0, "   x        ").region(0, 7);
        probe.seq("?47h").mode(3, 1).line(0, "   x        ").cursor(0, 4);
        probe.seq("?47;47h").line(0, "   x        ");
        Probe anew = new Probe("blank anew").seq("?47h", "7m").fill().cells(32, -1, 0).seq("?47l").cells(32, 0, 96);
        anew.seq("?47h").cells(32, 0, 96).pen(4);
        Probe full = new Probe("if full").fillRow().seq("?47h").cursor(0, 11, true).pack("m").code(1, 0, 'm');
        full.seq("?47l").line(1, Probe.BLANK_LINE);
    }

    private static void pageZero() {
        Probe probe = new Probe("47l").pack("abc").seq("?47h").pack("x").seq("?47l").mode(3, 0).line(0, "abc         ");
        probe.cursor(0, 4).pack("y").seq("?47l").mode(3, 0).line(0, "abc y       ").cursor(0, 5);
        new Probe("47l at first").fill().seq("4;5H", "?47l").mode(3, 0).firstColumn(Probe.ALL_ROWS).cells(32, -1, 0).cursor(3, 4);
        new Probe("looks").seq("7m").pack("a").seq("?47h", "?47l").code(0, 0, 'a').look(0, 0, 4);
        new Probe("if full").fillRow().seq("?47h", "?47l").cursor(0, 11, true);
    }
}
