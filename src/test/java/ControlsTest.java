/** The controls, in every state, and what 24, 26, 27, 127 and 128 .. 255 do there; promises 10 to 12. */
public final class ControlsTest {
    private static final String[] INTO = {"", "\33", "\33[", "\33 ", "\33]"};

    public static void main(String[] args) {
        states();
        bells();
        backspace();
        tabulator();
        tabStops();
        feeding();
        carriageReturn();
        otherControls();
        withinOtherStates();
        withinTitle();
        cancelling();
        highBytes();
        Probe.finish();
    }

    private static void states() {
        for (int state = 0; state < 5; state++) {
            new Probe("state " + state).send(INTO[state]).state(state);
        }
    }

    private static void bells() {
        new Probe("bells").bells(0).send("\7").bells(1).send("a\7\7").bells(3).cursor(0, 1);
        Probe full = new Probe("a bell leaves full").send("abcdefghijkl\7").cursor(0, 11, true);
        full.bells(1);
    }

    private static void backspace() {
        new Probe("8").send("abc\b").cursor(0, 2).send("\b\b").cursor(0, 0).send("\b").cursor(0, 0).line(0, "abc         ");
        new Probe("8 if full").send("abcdefghijkl\b").cursor(0, 10, false);
        new Probe("8 stays in its row").send("\n\b").cursor(1, 0);
    }

    private static void tabulator() {
        new Probe("9").send("\t").cursor(0, 4).send("\t").cursor(0, 8).send("\t").cursor(0, 11).send("\t").cursor(0, 11);
        new Probe("9 before a stop").send("abc\t").cursor(0, 4);
        new Probe("9 behind a stop").send("abcde\t").cursor(0, 8);
        new Probe("9 if full").send("abcdefghijkl\t").cursor(0, 11, false).send("m").line(0, "abcdefghijkm");
    }

    private static void tabStops() {
        Probe probe = new Probe("tab stops").tabs("....T...T...").send("ab" + Probe.ESC + "H").tabs("..T.T...T...");
        probe.cursor(0, 2).state(0).send("\r\t").cursor(0, 2);
        probe.send("\r" + Probe.ESC + "H").tabs("T.T.T...T...").send(Probe.CSI + "12G" + Probe.ESC + "H").tabs("T.T.T...T..T");
        probe.send(Probe.CSI + "5G" + Probe.CSI + "g").tabs("T.T.....T..T").send(Probe.CSI + "g").tabs("T.T.....T..T");
        probe.send(Probe.CSI + "9G" + Probe.CSI + "0g").tabs("T.T........T");
        probe.send(Probe.CSI + "3G" + Probe.CSI + "1g" + Probe.CSI + "2g" + Probe.CSI + "4g").tabs("T.T........T");
        probe.send(Probe.CSI + "3g").tabs("............").cursor(0, 2).send("\t").cursor(0, 11);
        int[] none = {-1, 12, 32, 36, 40, -28, Integer.MIN_VALUE, Integer.MAX_VALUE};
        for (int column : none) {
            Probe.same("tab(" + column + ")", new ScreenDesk().tab(column), false);
        }
        Probe full = new Probe("tab stops leave full").send("abcdefghijkl" + Probe.ESC + "H").cursor(0, 11, true);
        full.send(Probe.CSI + "g").cursor(0, 11, true).tabs("....T...T...");
    }

    private static void feeding() {
        for (String feed : new String[] {"\n", "\13", "\f", "\33D"}) {
            new Probe("feeding").send("ab" + feed).cursor(1, 2).state(0);
            new Probe("feeding in row 7").fill().pack(Probe.CSI + "8;3H" + feed).cursor(7, 2).firstColumn("bcdefgh ")
                .line(7, Probe.BLANK_LINE);
            Probe bottom = new Probe("feeding in bottom").fill().pack(Probe.CSI + "2;4r" + Probe.CSI + "4H" + feed);
            bottom.cursor(3, 0).firstColumn("acd efgh");
            Probe above = new Probe("feeding above the region").fill().pack(Probe.CSI + "3;5r" + feed);
            above.cursor(1, 0).firstColumn("abcdefgh");
            Probe within = new Probe("feeding in the region").fill().pack(Probe.CSI + "3;5r" + Probe.CSI + "3H" + feed);
            within.cursor(3, 0).firstColumn("abcdefgh");
            Probe below = new Probe("feeding below the region").fill().pack(Probe.CSI + "3;5r" + Probe.CSI + "7H" + feed);
            below.cursor(7, 0).pack(feed).cursor(7, 0).firstColumn("abcdefgh");
            new Probe("feeding if full").send("abcdefghijkl" + feed).cursor(1, 11, false);
            Probe stuck = new Probe("feeding if full in row 7").pack(Probe.CSI + "2;4r" + Probe.CSI + "8;12H" + "x");
            stuck.cursor(7, 11, true).pack(feed).cursor(7, 11, false).code(7, 11, 'x');
        }
        Probe blank = new Probe("a pen does not colour what comes in").fill().pack(Probe.CSI + "41;7m" + Probe.CSI + "8H\n");
        blank.cells(32, 0, 12);
    }

    private static void carriageReturn() {
        new Probe("13").send("abc\r").cursor(0, 0);
        new Probe("13 if full").send("abcdefghijkl\r").cursor(0, 0, false).send("x").line(0, "xbcdefghijkl");
        new Probe("13 keeps the row").send("\n\nab\r").cursor(2, 0);
    }

    private static void otherControls() {
        for (int b = 0; b < 32; b++) {
            boolean acts = b >= 7 && b <= 13 || b == 27;
            if (!acts) {
                new Probe("control " + b).send("abcdefghijkl").bytes(b).cursor(0, 11, true).state(0).bells(0)
                    .cells(32, 0, 84);
            }
        }
    }

    private static void withinOtherStates() {
        for (int state = 1; state < 4; state++) {
            Probe probe = new Probe("controls in state " + state).send("abc").send(INTO[state]);
            probe.send("\7").bells(1).state(state).send("\b").cursor(0, 2).state(state);
            probe.send("\t").cursor(0, 4).state(state).send("\n\13\f").cursor(3, 4).state(state);
            probe.send("\r").cursor(3, 0).state(state).bytes(0, 1, 14, 25, 28, 31, 127).state(state).cursor(3, 0);
        }
        new Probe("a control within numbers").send(Probe.CSI + "1\n2G").cursor(1, 11).state(0);
        new Probe("a control behind ESCAPE").send(Probe.ESC + "\nH").tabs("T...T...T...").cursor(1, 0);
    }

    private static void withinTitle() {
        Probe probe = new Probe("controls in TITLE").send("abc" + Probe.ESC + "]");
        probe.bytes(0, 1, 8, 9, 10, 11, 12, 13, 14, 25, 28, 31, 127, 128, 255).state(4).cursor(0, 3).title("");
        probe.send("x\7").title("x").bells(0).state(0).cursor(0, 3);
    }

    private static void cancelling() {
        for (int state = 0; state < 5; state++) {
            new Probe("24 in " + state).send(INTO[state]).bytes(24).state(0).send("a").line(0, "a           ").title("");
            new Probe("26 in " + state).send(INTO[state]).bytes(26).state(0).send("a").line(0, "a           ").title("");
            new Probe("27 in " + state).send(INTO[state]).bytes(27).state(1).send("D").cursor(1, 0).state(0).title("");
            new Probe("127 in " + state).send(INTO[state]).bytes(127).state(state).cells(32, 0, 96);
        }
        new Probe("24 leaves full").send("abcdefghijkl").bytes(24, 26).cursor(0, 11, true);
    }

    private static void highBytes() {
        for (int state = 1; state < 5; state++) {
            for (int b = 127; b < 256; b++) {
                new Probe(b + " in " + state).send(INTO[state]).bytes(b).state(state).cells(32, 0, 96).cursor(0, 0);
            }
        }
        new Probe("high bytes within numbers").send(Probe.CSI + "1").bytes(195, 164, 255, 127).send("2G").cursor(0, 11);
        new Probe("high bytes leave no letter open").send(Probe.CSI).bytes(195).send("3G").bytes(164).code(0, 2, 65533);
    }
}
