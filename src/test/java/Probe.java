import java.util.NoSuchElementException;

/** One desk under test: sends bytes, compares answers, and counts those that are wrong. */
final class Probe {
    static final String ESC = "\033";
    static final String CSI = "\033[";
    static final String BLANK_LINE = "            ";
    static final String ALL_ROWS = "abcdefgh";
    static final String ALL_COLUMNS = "abcdefghijkl";

    private static int wrong = 0;
    private static int looked = 0;
    private static String sentence = "";

    static {
        Watch.begin();
    }

    final ScreenDesk desk = new ScreenDesk();
    private final String what;

    Probe(String what) {
        this.what = what;
    }

    /** From here on a wrong answer is told with these words of the document. */
    static void about(String words) {
        sentence = words;
    }

    /** Ends a test's main method: exit code 1 if an answer was wrong. */
    static void finish() {
        if (looked == 0) {
            System.out.println("nothing was looked at");
            System.exit(1);
        }
        if (wrong != 0) {
            System.out.println(wrong + " of " + looked + " answers are wrong");
            System.exit(1);
        }
    }

    static void same(String what, long got, long want) {
        looked++;
        if (got != want) {
            tell(what + ": got " + got + ", due is " + want);
        }
    }

    static void same(String what, String got, String want) {
        looked++;
        if (!got.equals(want)) {
            tell(what + ": got <" + got + ">, due is <" + want + ">");
        }
    }

    private static void tell(String answer) {
        wrong++;
        System.out.println(readable(sentence.isEmpty() ? answer : "\"" + sentence + "\": " + answer));
    }

    /** Controls stand as their numbers, so that a failing test does not draw on the reader's own screen. */
    private static String readable(String text) {
        StringBuilder line = new StringBuilder();
        for (char c : text.toCharArray()) {
            if (c >= 32 && c <= 126) {
                line.append(c);
            } else {
                line.append('{').append((int) c).append('}');
            }
        }
        return line.toString();
    }

    static void same(String what, boolean got, boolean want) {
        same(what, got ? 1 : 0, want ? 1 : 0);
    }

    /** Feeds the characters of a text, each one a byte. */
    Probe send(String bytes) {
        for (int i = 0; i < bytes.length(); i++) {
            same(what + ": feed", desk.feed(bytes.charAt(i)), true);
        }
        return this;
    }

    Probe bytes(int... bytes) {
        for (int b : bytes) {
            same(what + ": feed(" + b + ")", desk.feed(b), true);
        }
        return this;
    }

    /** Sequences, each one without what leads to it. */
    Probe seq(String... sequences) {
        for (String sequence : sequences) {
            pack(CSI + sequence);
        }
        return this;
    }

    /** What stands behind an ESCAPE. */
    Probe esc(String rest) {
        return pack(ESC + rest);
    }

    /** Letters a .. l over the cursor's row, so that the cursor is full. */
    Probe fillRow() {
        return pack("\r" + ALL_COLUMNS).full(true);
    }

    /** Letters a .. h over the whole of rows 0 .. 7, then the cursor at (0, 0). */
    Probe fill() {
        for (int row = 0; row < 8; row++) {
            seq((row + 1) + "H");
            pack(ALL_ROWS.substring(row, row + 1).repeat(12));
        }
        return seq("H");
    }

    /** As send, but in few calls. */
    Probe pack(String bytes) {
        for (int from = 0; from < bytes.length(); from += 8) {
            int to = Math.min(bytes.length(), from + 8);
            long packed = 0;
            for (int i = to - 1; i >= from; i--) {
                packed = packed << 8 | bytes.charAt(i);
            }
            same(what + ": feedAll", desk.feedAll(packed), to - from);
        }
        return this;
    }

    Probe cursor(int row, int column, boolean full) {
        same(what + ": row()", desk.row(), row);
        same(what + ": column()", desk.column(), column);
        return full(full);
    }

    Probe full(boolean full) {
        same(what + ": full()", desk.full(), full);
        return this;
    }

    Probe cursor(int row, int column) {
        return cursor(row, column, false);
    }

    Probe state(int state) {
        same(what + ": state()", desk.state(), state);
        return this;
    }

    Probe pen(int pen) {
        same(what + ": pen()", desk.pen(), pen);
        return this;
    }

    Probe mode(int k, int on) {
        same(what + ": mode(" + k + ")", desk.mode(k), on);
        return this;
    }

    Probe region(int top, int bottom) {
        same(what + ": region()", desk.region(), 8 * top + bottom);
        return this;
    }

    Probe bells(int bells) {
        same(what + ": bells()", desk.bells(), bells);
        return this;
    }

    Probe code(int row, int column, int code) {
        same(what + ": code(" + row + ", " + column + ")", desk.code(row, column), code);
        return this;
    }

    Probe look(int row, int column, int look) {
        same(what + ": look(" + row + ", " + column + ")", desk.look(row, column), look);
        return this;
    }

    Probe cells(int code, int look, int count) {
        same(what + ": cells(" + code + ", " + look + ")", desk.cells(code, look), count);
        return this;
    }

    /** The tab stops as a text of twelve, T where there is one. */
    Probe tabs(String want) {
        StringBuilder got = new StringBuilder();
        for (int column = 0; column < 12; column++) {
            got.append(desk.tab(column) ? 'T' : '.');
        }
        same(what + ": tab stops", got.toString(), want);
        return this;
    }

    /** The codes of a row; those beyond 126 stand as #. */
    Probe line(int row, String want) {
        StringBuilder got = new StringBuilder();
        for (int column = 0; column < 12; column++) {
            int code = desk.code(row, column);
            got.append(code > 126 ? '#' : (char) code);
        }
        same(what + ": row " + row, got.toString(), want);
        return this;
    }

    /** The codes of column 0 from row 0 to row 7. */
    Probe firstColumn(String want) {
        StringBuilder got = new StringBuilder();
        for (int row = 0; row < 8; row++) {
            got.append((char) desk.code(row, 0));
        }
        same(what + ": column 0", got.toString(), want);
        return this;
    }

    Probe waiting(int bytes) {
        same(what + ": waiting()", desk.waiting(), bytes);
        return this;
    }

    /** Takes all that waits. */
    Probe replies(String want) {
        waiting(want.length());
        StringBuilder got = new StringBuilder();
        for (int i = desk.waiting(); i > 0; i--) {
            got.append((char) desk.reply());
        }
        same(what + ": replies", got.toString(), want);
        return noReply();
    }

    Probe noReply() {
        waiting(0);
        boolean threw = false;
        try {
            desk.reply();
        } catch (NoSuchElementException e) {
            threw = e.getClass() == NoSuchElementException.class;
        }
        same(what + ": reply() throws NoSuchElementException", threw, true);
        return this;
    }

    Probe noCell(int row, int column) {
        String cell = "(" + row + ", " + column + ") throws IndexOutOfBoundsException";
        boolean codeThrew = false;
        try {
            desk.code(row, column);
        } catch (IndexOutOfBoundsException e) {
            codeThrew = e.getClass() == IndexOutOfBoundsException.class;
        }
        same(what + ": code" + cell, codeThrew, true);
        boolean lookThrew = false;
        try {
            desk.look(row, column);
        } catch (IndexOutOfBoundsException e) {
            lookThrew = e.getClass() == IndexOutOfBoundsException.class;
        }
        same(what + ": look" + cell, lookThrew, true);
        return this;
    }

    Probe title(String want) {
        StringBuilder got = new StringBuilder();
        for (int i = 0; i < 20 && desk.title(i) != -1; i++) {
            got.append((char) desk.title(i));
        }
        same(what + ": title", got.toString(), want);
        same(what + ": title(-1)", desk.title(-1), -1);
        same(what + ": title(length)", desk.title(want.length()), -1);
        return this;
    }

    /** All that stands under AT FIRST, as far as it can be asked. */
    Probe atFirst() {
        cursor(0, 0).pen(0).region(0, 7).tabs("....T...T...").bells(0).state(0);
        mode(0, 0).mode(1, 0).mode(2, 1).mode(3, 0);
        return cells(32, 0, 96).noReply().title("");
    }
}
