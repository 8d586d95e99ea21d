/** Terms: what 24, 26, 27, 127 and 128 .. 255 do in the states, and the controls. */
public final class ControlsTest {
    /** What leads to each state. */
    private static final String[] INTO = {"", "\033", "\033[", "\033(", "\033]"};

    public static void main(String[] args) {
        Sentence.holds("In all states 24 and 26 lead to GROUND, 27 to ESCAPE, and nothing else is done;",
            ControlsTest::cancellingInAllStates);
        Sentence.holds("In all states 24 and 26 lead to GROUND, 27 to ESCAPE, and nothing else is done;",
            ControlsTest::nothingElseIsDone);
        Sentence.holds("127 does nothing.", ControlsTest::byte127InAllStates);
        Sentence.holds("In the states other than GROUND 128 .. 255 do nothing.", ControlsTest::highBytesOutsideGround);
        Sentence.holds("In the states other than TITLE the other bytes from 0 to 31 are CONTROLS, "
            + "behind which the state is what it was:", ControlsTest::theStateIsWhatItWas);
        Sentence.holds("In the states other than TITLE the other bytes from 0 to 31 are CONTROLS, "
            + "behind which the state is what it was:", ControlsTest::controlsAmidASequence);
        Sentence.holds("In the states other than TITLE the other bytes from 0 to 31 are CONTROLS, "
            + "behind which the state is what it was:", ControlsTest::noControlsInTitle);
        Sentence.holds("7 a bell is rung.", ControlsTest::bell);
        Sentence.holds("8 the cursor is placed one column to the left, in column 0 there.", ControlsTest::oneToTheLeft);
        Sentence.holds("9 it is placed at the next column on its right with a tab stop, or at 11.",
            ControlsTest::toTheNextTabStop);
        Sentence.holds("10, 11 and 12 a feeding.", ControlsTest::feedings);
        Sentence.holds("13 it is placed at column 0.", ControlsTest::toColumn0);
        Sentence.holds("Others nothing.", ControlsTest::otherControls);
        Probe.finish();
    }

    /** A desk that differs from a new one in all that can be asked, and is full. */
    private static Probe drawn(String what) {
        Probe probe = new Probe(what).fill().seq("3;5r", "4;12H", "1m").pack("x\7").seq("4h", "5n").esc("]t\7");
        return probe.seq("5n");
    }

    private static void asDrawn(Probe probe) {
        probe.bells(1);
        asDrawnButBells(probe);
    }

    private static void asDrawnButBells(Probe probe) {
        probe.cursor(3, 11, true).pen(1).region(2, 4).tabs("....T...T...").firstColumn(Probe.ALL_ROWS).cells('x', 1, 1);
        probe.cells(32, -1, 0).mode(0, 1).mode(1, 0).mode(2, 1).mode(3, 0).title("t");
        probe.replies("\033[0n\033[0n");
    }

    private static void cancellingInAllStates() {
        for (int state = 0; state < 5; state++) {
            new Probe("into " + state).send(INTO[state]).state(state);
            new Probe("24 in " + state).send(INTO[state]).bytes(24).state(0).send("a").line(0, "a           ").title("");
            new Probe("26 in " + state).send(INTO[state]).bytes(26).state(0).send("a").line(0, "a           ").title("");
            new Probe("27 in " + state).send(INTO[state]).bytes(27).state(1).send("D").cursor(1, 0).state(0).title("");
        }
        new Probe("27 amid numbers").send("\033[5;5\033[H").cursor(0, 0);
        new Probe("24 amid numbers").send("\033[5;5").bytes(24).send("H").code(0, 0, 'H').cursor(0, 1);
    }

    private static void nothingElseIsDone() {
        for (int state = 0; state < 5; state++) {
            for (int b : new int[] {24, 26, 27}) {
                asDrawn(drawn(b + " in " + state).pack(INTO[state]).bytes(b));
            }
        }
    }

    private static void byte127InAllStates() {
        for (int state = 0; state < 5; state++) {
            Probe probe = drawn("127 in " + state).pack(INTO[state]).bytes(127).state(state);
            asDrawn(probe);
        }
        new Probe("127 amid numbers").send("\033[1").bytes(127).send("2G").cursor(0, 11);
        new Probe("127 amid a title").send("\033]a").bytes(127).send("b\7").title("ab");
        new Probe("127 behind ESCAPE").send("\033").bytes(127).send("D").cursor(1, 0).state(0);
    }

    private static void highBytesOutsideGround() {
        for (int state = 1; state < 5; state++) {
            for (int b = 128; b < 256; b++) {
                new Probe(b + " in " + state).send(INTO[state]).bytes(b).state(state).cells(32, 0, 96).cursor(0, 0);
            }
            asDrawn(drawn("128 and 255 in " + state).pack(INTO[state]).bytes(128, 195, 164, 255));
        }
        new Probe("amid numbers").send("\033[1").bytes(195, 164, 255).send("2G").cursor(0, 11);
        new Probe("amid a title").send("\033]a").bytes(195, 164, 255).send("b\7").title("ab");
        new Probe("they leave no letter open").send("\033[").bytes(195).send("3G").bytes(164).code(0, 2, 65533).cursor(0, 3);
    }

    private static void theStateIsWhatItWas() {
        for (int state = 0; state < 4; state++) {
            for (int b = 0; b < 32; b++) {
                if (b != 24 && b != 26 && b != 27) {
                    new Probe(b + " in " + state).send(INTO[state]).bytes(b).state(state).bells(b == 7 ? 1 : 0);
                }
            }
            Probe probe = new Probe("controls in " + state).send("abc").send(INTO[state]);
            probe.send("\7").bells(1).send("\b").cursor(0, 2).send("\t").cursor(0, 4).send("\n").cursor(1, 4);
            probe.send("\013").cursor(2, 4).send("\f").cursor(3, 4).send("\r").cursor(3, 0).state(state);
        }
    }

    private static void controlsAmidASequence() {
        new Probe("amid a number").send("\033[1\n2G").cursor(1, 11).state(0);
        new Probe("behind ESCAPE").send("\033\nH").tabs("T...T...T...").cursor(1, 0).state(0);
        new Probe("behind a semicolon").send("\033[2;\r\n3H").cursor(1, 2).state(0);
        new Probe("in WASTE").send("\033[1 \n\7H").cursor(1, 0).bells(1).state(0);
    }

    private static void noControlsInTitle() {
        Probe probe = new Probe("in TITLE").send("abc\033]");
        for (int b = 0; b < 32; b++) {
            if (b != 7 && b != 24 && b != 26 && b != 27) {
                probe.bytes(b).state(4).cursor(0, 3);
            }
        }
        probe.send("x\7").title("x").bells(0).state(0).cursor(0, 3);
    }

    private static void bell() {
        new Probe("bells").bells(0).send("\7").bells(1).send("a\7\7").bells(3).cursor(0, 1).state(0);
        asDrawnButBells(drawn("nothing but a bell").pack("\7").bells(2));
    }

    private static void oneToTheLeft() {
        for (int column = 0; column < 12; column++) {
            Probe probe = new Probe("8 in column " + column).seq("3;" + (column + 1) + "H").pack("\b");
            probe.cursor(2, Math.max(0, column - 1));
        }
        new Probe("8 clears nothing").pack("abc\b").cursor(0, 2).line(0, "abc         ");
        new Probe("8 if full").fillRow().pack("\b").cursor(0, 10, false).pack("x").line(0, "abcdefghijxl");
    }

    private static void toTheNextTabStop() {
        for (int column = 0; column < 12; column++) {
            Probe probe = new Probe("9 in column " + column).seq("3;" + (column + 1) + "H").pack("\t");
            probe.cursor(2, column < 4 ? 4 : column < 8 ? 8 : 11);
            Probe none = new Probe("9 without stops").seq("3g", "3;" + (column + 1) + "H").pack("\t");
            none.cursor(2, 11);
            Probe next = new Probe("9 to each stop").seq("3g", (column + 1) + "G").esc("H").pack("\r\t");
            next.cursor(0, column == 0 ? 11 : column);
        }
        new Probe("9 if full").fillRow().pack("\t").cursor(0, 11, false).pack("m").line(0, "abcdefghijkm");
        new Probe("9 to a stop in column 11").seq("12G").esc("H").pack("\r\t\t\t").cursor(0, 11).pack("\t").cursor(0, 11);
        new Probe("9 clears nothing").pack("abcde\r\t").line(0, "abcde       ");
    }

    private static void feedings() {
        for (int b = 10; b < 13; b++) {
            new Probe(b + " in row 0").pack("ab").bytes(b).cursor(1, 2).state(0);
            new Probe(b + " in row 7").fill().seq("8;3H").bytes(b).cursor(7, 2).firstColumn("bcdefgh ");
            new Probe(b + " in bottom").fill().seq("2;4r", "4H").bytes(b).cursor(3, 0).firstColumn("acd efgh");
            new Probe(b + " below bottom").fill().seq("2;4r", "8H").bytes(b).cursor(7, 0).firstColumn(Probe.ALL_ROWS);
            new Probe(b + " if full").fillRow().bytes(b).cursor(1, 11, false);
        }
    }

    private static void toColumn0() {
        for (int column = 0; column < 12; column++) {
            new Probe("13 in column " + column).seq("3;" + (column + 1) + "H").pack("\r").cursor(2, 0);
        }
        new Probe("13 if full").fillRow().pack("\r").cursor(0, 0, false).pack("x").line(0, "xbcdefghijkl");
    }

    private static void otherControls() {
        for (int b = 0; b < 32; b++) {
            boolean acts = b >= 7 && b <= 13 || b == 24 || b == 26 || b == 27;
            if (!acts) {
                for (int state = 0; state < 4; state++) {
                    asDrawn(drawn("control " + b + " in " + state).pack(INTO[state]).bytes(b).state(state));
                }
            }
        }
    }
}
