/** How long an object is used; promises 2 to 15: feed, feedAll, and what can be asked. The others stand with the terms that they lean on. */
public final class PromisesTest {
    public static void main(String[] args) {
        Sentence.holds("An object is used for at most 512 calls after it has been made;", PromisesTest::fiveHundredTwelveCalls);
        Sentence.holds("what later calls answer is free.", PromisesTest::laterCallsDoNotThrow);
        Sentence.holds("`boolean feed(int b)`: Takes byte b;", PromisesTest::feedTakesEveryByte);
        Sentence.holds("false, and nothing is done, if it is not 0 .. 255.", PromisesTest::feedOfWhatIsNoByte);
        Sentence.holds("`int feedAll(long bytes)`: Takes up to eight bytes, from the lowest 8 bits of bytes on;",
            PromisesTest::feedAllFromTheLowestOn);
        Sentence.holds("one that is 0 ends them and is not taken: how many.", PromisesTest::feedAllEndsAtZero);
        Sentence.holds("`int row()`: The cursor's row.", PromisesTest::row);
        Sentence.holds("`int column()`: The cursor's column.", PromisesTest::column);
        Sentence.holds("`boolean full()`: Whether the cursor is full.", PromisesTest::full);
        Sentence.holds("`int pen()`: The pen.", PromisesTest::pen);
        Sentence.holds("`int mode(int k)`: 1 if INSERT is on (k = 0), ORIGIN (1), WRAP (2), page 1 is shown (3), else 0;",
            PromisesTest::mode);
        Sentence.holds("-1 for another k.", PromisesTest::anotherMode);
        Sentence.holds("`int region()`: The region: 8 * top + bottom.", PromisesTest::region);
        Sentence.holds("`boolean tab(int column)`: Whether a column has a tab stop;", PromisesTest::tab);
        Sentence.holds("false if there is no such column.", PromisesTest::tabOfNoColumn);
        Sentence.holds("`int bells()`: How many bells were rung.", PromisesTest::bells);
        Sentence.holds("`int state()`: The state: 0 GROUND, 1 ESCAPE, 2 SEQUENCE, 3 WASTE, 4 TITLE.", PromisesTest::state);
        Sentence.holds("`int code(int row, int column) throws IndexOutOfBoundsException`: The code of a cell of the page shown.",
            PromisesTest::code);
        Sentence.holds("`int look(int row, int column) throws IndexOutOfBoundsException`: Its look.", PromisesTest::look);
        Sentence.holds("Throws IndexOutOfBoundsException if there is no such cell.", PromisesTest::noSuchCell);
        Sentence.holds("`int cells(int code, int look)`: How many cells of the page shown have that code and that look;",
            PromisesTest::cells);
        Sentence.holds("a look below 0 stands for any.", PromisesTest::cellsOfAnyLook);
        Probe.finish();
    }

    private static void fiveHundredTwelveCalls() {
        ScreenDesk bells = new ScreenDesk();
        for (int i = 0; i < 511; i++) {
            Probe.same("feedAll", bells.feedAll(0x0707070707070707L), 8);
        }
        Probe.same("the 512th call", bells.bells(), 8 * 511);
        ScreenDesk letters = new ScreenDesk();
        for (int i = 0; i < 511; i++) {
            Probe.same("feedAll", letters.feedAll(0x6161616161616161L), 8);
        }
        // 4088 letters: 340 rows and 8 letters in the row below.
        Probe.same("the 512th call", letters.cells('a', 0), 7 * 12 + 8);
    }

    /** Their answers are free, but a call never throws by itself (LANGUAGE.md, rule 7). */
    private static void laterCallsDoNotThrow() {
        ScreenDesk desk = new ScreenDesk();
        String bytes = "ab\n\33[3;5r\33M\33[2L\33[6n\33[9b\t\7\33]title\7\33[?47h\33[1;31m\303\244\342\202";
        for (int i = 0; i < 600 * bytes.length(); i++) {
            desk.feed(bytes.charAt(i % bytes.length()));
        }
        Probe.same("a cell behind many calls", desk.code(7, 11) >= 0 && desk.look(7, 11) >= 0, true);
        Probe.same("replies behind many calls", desk.waiting() <= 64, true);
    }

    private static void feedTakesEveryByte() {
        for (int b = 0; b < 256; b++) {
            Probe.same("feed(" + b + ")", new ScreenDesk().feed(b), true);
        }
        new Probe("one byte").bytes('a').line(0, "a           ").bytes(0).line(0, "a           ").cursor(0, 1);
    }

    private static void feedOfWhatIsNoByte() {
        int[] wrong = {-1, 256, 257, 256 + 'a', 256 + 7, 'a' - 256, -128, 512, Integer.MIN_VALUE, Integer.MAX_VALUE};
        Probe first = new Probe("at first");
        Probe open = new Probe("while a byte of a letter is missing").bytes(195);
        Probe sequence = new Probe("amid a sequence").send("\033[3");
        Probe title = new Probe("amid a title").send("\033]a");
        for (int b : wrong) {
            for (Probe probe : new Probe[] {first, open, sequence, title}) {
                Probe.same("feed(" + b + ")", probe.desk.feed(b), false);
            }
        }
        first.atFirst();
        open.cursor(0, 0).bytes(164).code(0, 0, 228).cursor(0, 1);
        sequence.state(2).send("G").cursor(0, 2);
        title.state(4).send("\7").title("a");
    }

    private static void feedAllFromTheLowestOn() {
        Probe probe = new Probe("feedAll");
        Probe.same("eight", probe.desk.feedAll(0x6867666564636261L), 8);
        probe.line(0, "abcdefgh    ").cursor(0, 8);
        Probe.same("one", probe.desk.feedAll(0x69L), 1);
        Probe.same("a sequence", probe.desk.feedAll(0x4833_3b32_5b1bL), 6);
        probe.line(0, "abcdefghi   ").cursor(1, 2);
        Probe high = new Probe("the highest bit");
        Probe.same("-1", high.desk.feedAll(-1L), 8);
        high.cells(65533, 0, 8);
        Probe.same("255 on top", high.desk.feedAll(0xff61616161616161L), 8);
        high.cells(65533, 0, 9).cells('a', 0, 7).cursor(1, 4);
        Probe.same("the lowest value", high.desk.feedAll(Long.MIN_VALUE), 0);
        Probe.same("the greatest value", high.desk.feedAll(Long.MAX_VALUE), 8);
        high.cells(65533, 0, 16).cursor(1, 11);
    }

    private static void feedAllEndsAtZero() {
        for (int taken = 0; taken < 8; taken++) {
            Probe probe = new Probe("0 behind " + taken);
            long bytes = 0x6867666564636261L & ~(255L << 8 * taken);
            Probe.same("how many", probe.desk.feedAll(bytes), taken);
            probe.line(0, ("abcdefgh".substring(0, taken) + Probe.BLANK_LINE).substring(0, 12)).cursor(0, taken);
        }
        Probe.same("of 0", new ScreenDesk().feedAll(0), 0);
        Probe open = new Probe("0 is not taken while a byte of a letter is missing").bytes(195);
        Probe.same("none", open.desk.feedAll(0x6100L), 0);
        open.cursor(0, 0).bytes(164).code(0, 0, 228);
        Probe part = new Probe("nor behind the begin of one");
        Probe.same("one", part.desk.feedAll(0x6100c3L), 1);
        part.cursor(0, 0).bytes(164).code(0, 0, 228);
    }

    private static void row() {
        for (int row = 0; row < 8; row++) {
            Probe probe = new Probe("row").seq((row + 1) + ";6H");
            Probe.same("row()", probe.desk.row(), row);
        }
    }

    private static void column() {
        for (int column = 0; column < 12; column++) {
            Probe probe = new Probe("column").seq("4;" + (column + 1) + "H");
            Probe.same("column()", probe.desk.column(), column);
        }
        Probe full = new Probe("full").fillRow();
        Probe.same("column() if full", full.desk.column(), 11);
    }

    private static void full() {
        new Probe("full").full(false).pack("abcdefghijk").full(false).pack("l").full(true).full(true).pack("m").full(false);
    }

    private static void pen() {
        new Probe("pen").pen(0).seq("1;4;7;37;47m").pen(7 + 64 + 1024).pack("a").pen(7 + 64 + 1024).seq("m").pen(0);
    }

    private static void mode() {
        new Probe("at first").mode(0, 0).mode(1, 0).mode(2, 1).mode(3, 0);
        new Probe("INSERT").seq("4h").mode(0, 1).mode(1, 0).mode(2, 1).mode(3, 0);
        new Probe("ORIGIN").seq("?6h").mode(0, 0).mode(1, 1).mode(2, 1).mode(3, 0);
        new Probe("WRAP").seq("?7l").mode(0, 0).mode(1, 0).mode(2, 0).mode(3, 0);
        new Probe("page 1").seq("?47h").mode(0, 0).mode(1, 0).mode(2, 1).mode(3, 1);
    }

    private static void anotherMode() {
        Probe on = new Probe("all on").seq("4h", "?6;7;47h");
        for (int k : new int[] {-1, -2, 4, 5, 6, 7, 8, 47, 256, Integer.MIN_VALUE, Integer.MAX_VALUE}) {
            new Probe("at first").mode(k, -1);
            on.mode(k, -1);
        }
    }

    private static void region() {
        for (int top = 0; top < 7; top++) {
            for (int bottom = top + 1; bottom < 8; bottom++) {
                Probe probe = new Probe("region").seq((top + 1) + ";" + (bottom + 1) + "r");
                Probe.same("region()", probe.desk.region(), 8 * top + bottom);
            }
        }
    }

    private static void tab() {
        Probe probe = new Probe("tab").tabs("....T...T...").esc("H").seq("12G").esc("H").tabs("T...T...T..T");
        Probe.same("tab(0)", probe.desk.tab(0), true);
        Probe.same("tab(11)", probe.desk.tab(11), true);
    }

    private static void tabOfNoColumn() {
        Probe all = new Probe("stops in all columns");
        for (int column = 1; column < 13; column++) {
            all.seq(column + "G").esc("H");
        }
        all.tabs("TTTTTTTTTTTT");
        for (int column : new int[] {-1, -12, 12, 13, 31, 32, 36, 40, 64, -28, Integer.MIN_VALUE, Integer.MAX_VALUE}) {
            Probe.same("tab(" + column + ")", all.desk.tab(column), false);
        }
    }

    private static void bells() {
        new Probe("bells").bells(0).pack("\7").bells(1).pack("\7\7\7").bells(4).bells(4).esc("\7").bells(5).esc("]\7").bells(5);
    }

    private static void state() {
        String[] into = {"", "\033", "\033[", "\033(", "\033]"};
        for (int state = 0; state < 5; state++) {
            new Probe("state").send(into[state]).state(state).state(state);
        }
        new Probe("WASTE from SEQUENCE").send("\033[ ").state(3);
        new Probe("GROUND while a byte of a letter is missing").bytes(0xf0).state(0).bytes(0x9f).state(0);
    }

    private static void code() {
        Probe probe = new Probe("code");
        for (int row = 0; row < 8; row++) {
            probe.seq((row + 1) + "H").pack("abcdefghijkl".replace('a', (char) ('A' + row)));
        }
        for (int row = 0; row < 8; row++) {
            probe.code(row, 0, 'A' + row).code(row, 1, 'b').code(row, 11, 'l');
        }
        probe.seq("?47h").code(0, 0, 32).code(7, 11, 32).pack("\033[Hx").code(0, 0, 'x').seq("?47l").code(0, 0, 'A');
    }

    private static void look() {
        Probe probe = new Probe("look").seq("1m").pack("a").seq("4m", "8;12H").pack("b").look(0, 0, 1).look(7, 11, 3);
        probe.look(0, 1, 0).look(7, 10, 0).look(7, 0, 0).look(0, 11, 0);
        probe.seq("?47h").look(0, 0, 0).look(7, 11, 0).pack("\033[Hx").look(0, 0, 3).seq("?47l").look(0, 0, 1);
    }

    private static void noSuchCell() {
        Probe probe = new Probe("no such cell");
        int[] outside = {-1, -8, -12, 12, 96, 1 << 28, 1 << 30, Integer.MIN_VALUE, Integer.MAX_VALUE};
        for (int wrong : outside) {
            probe.noCell(wrong, 0).noCell(0, wrong).noCell(wrong, wrong).noCell(7, wrong).noCell(wrong, 11);
        }
        probe.noCell(8, 0).noCell(8, 11).noCell(8, -96).noCell(-1, 12).noCell(1, -12).noCell(-8, 96);
        probe.code(0, 0, 32).code(7, 11, 32).look(0, 0, 0).look(7, 11, 0).code(7, 0, 32).code(0, 11, 32);
        probe.code(0, 8, 32).code(0, 11, 32).look(0, 8, 0).atFirst();
    }

    private static void cells() {
        Probe probe = new Probe("cells").cells(32, 0, 96).cells(32, 1, 0).cells('a', 0, 0);
        probe.pack("aa").seq("1m").pack("ab ").seq("31m").pack("a").seq("8;12H").pack("a");
        probe.cells('a', 0, 2).cells('a', 1, 1).cells('a', 17, 2).cells('a', 16, 0).cells('b', 1, 1).cells('b', 0, 0);
        probe.cells(32, 0, 89).cells(32, 1, 1).cells(-1, 0, 0).cells(Integer.MAX_VALUE, 0, 0).cells(Integer.MIN_VALUE, 0, 0);
        probe.cells('a', Integer.MAX_VALUE, 0).cells('a' + 256, 0, 0).cells('a', 2048, 0);
        probe.seq("?47h").cells('a', 0, 0).cells(32, 0, 96).pack("\033[Ha").cells('a', 17, 1).seq("?47l").cells('a', 17, 2);
    }

    private static void cellsOfAnyLook() {
        Probe probe = new Probe("cells").cells(32, -1, 96).cells('a', -1, 0);
        probe.pack("aa").seq("1m").pack("ab ").seq("31m").pack("a");
        for (int any : new int[] {-1, -2, -128, Integer.MIN_VALUE}) {
            probe.cells('a', any, 4).cells('b', any, 1).cells(32, any, 91).cells(-1, any, 0).cells(Integer.MAX_VALUE, any, 0);
        }
        probe.seq("?47h").cells('a', -1, 0).cells(32, -1, 96);
    }
}
