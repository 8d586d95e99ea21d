import java.util.ArrayDeque;
import java.util.ArrayList;
import java.util.Arrays;
import java.util.List;

/**
 * The document told a second time, for tests alone: rows are lists of cells, a sequence is kept as text and read at its
 * end, so that a slip in one telling hardly stands in the other.
 */
final class PlainDesk {
    record Cell(int code, int look) { }

    private static final Cell BLANK = new Cell(32, 0);

    List<List<List<Cell>>> pages;
    int shown;
    int row;
    int column;
    boolean full;
    int bold;
    int underlined;
    int reversed;
    int colour;
    int ground;
    int top;
    int bottom;
    boolean[] stops;
    boolean insert;
    boolean origin;
    boolean wrap;
    int[] saved;
    Integer last;
    int bells;
    ArrayDeque<Integer> replies;
    String title;
    String state;
    String text;
    List<Integer> open;

    PlainDesk() {
        atFirst();
    }

    private void atFirst() {
        pages = new ArrayList<>(List.of(blankPage(), blankPage()));
        shown = 0;
        place(0, 0);
        setPen(0);
        top = 0;
        bottom = 7;
        stops = new boolean[12];
        stops[4] = true;
        stops[8] = true;
        insert = false;
        origin = false;
        wrap = true;
        save();
        last = null;
        bells = 0;
        replies = new ArrayDeque<>();
        title = "";
        state = "GROUND";
        text = "";
        open = new ArrayList<>();
    }

    private static List<Cell> blankRow() {
        return new ArrayList<>(java.util.Collections.nCopies(12, BLANK));
    }

    private static List<List<Cell>> blankPage() {
        List<List<Cell>> page = new ArrayList<>();
        for (int i = 0; i < 8; i++) {
            page.add(blankRow());
        }
        return page;
    }

    List<List<Cell>> page() {
        return pages.get(shown);
    }

    int pen() {
        return bold + 2 * underlined + 4 * reversed + 8 * colour + 128 * ground;
    }

    private void setPen(int look) {
        bold = look % 2;
        underlined = look / 2 % 2;
        reversed = look / 4 % 2;
        colour = look / 8 % 16;
        ground = look / 128;
    }

    private void place(int newRow, int newColumn) {
        row = newRow;
        column = newColumn;
        full = false;
    }

    private void save() {
        saved = new int[] {row, column, full ? 1 : 0, pen(), origin ? 1 : 0};
    }

    private void restore() {
        row = saved[0];
        column = saved[1];
        full = saved[2] == 1;
        setPen(saved[3]);
        origin = saved[4] == 1;
    }

    private void scrollUp(int from) {
        page().remove(from);
        page().add(bottom, blankRow());
    }

    private void scrollDown(int from) {
        page().remove(bottom);
        page().add(from, blankRow());
    }

    private void feeding() {
        if (row == bottom) {
            scrollUp(top);
        } else if (row != 7) {
            row++;
        }
        full = false;
    }

    private void backing() {
        if (row == top) {
            scrollDown(top);
        } else if (row != 0) {
            row--;
        }
        full = false;
    }

    private void print(int code) {
        if (full) {
            column = 0;
            feeding();
        }
        List<Cell> cells = page().get(row);
        if (insert) {
            cells.add(column, BLANK);
            cells.remove(12);
        }
        cells.set(column, new Cell(code, pen()));
        if (column == 11) {
            full = full || wrap;
        } else {
            column++;
        }
        last = code;
    }

    void take(int b) {
        if (!open.isEmpty()) {
            if (b / 64 == 2) {
                open.add(b);
                closeLetter();
                return;
            }
            open.clear();
            print(65533);
        }
        if (b == 24 || b == 26) {
            state = "GROUND";
        } else if (b == 27) {
            state = "ESCAPE";
        } else if (b == 127 || b > 127 && !state.equals("GROUND")) {
            return;
        } else if (b < 32 && !state.equals("TITLE")) {
            control(b);
        } else if (state.equals("GROUND")) {
            ground(b);
        } else if (state.equals("ESCAPE")) {
            escape((char) b);
        } else if (state.equals("SEQUENCE")) {
            sequence((char) b);
        } else if (state.equals("WASTE")) {
            state = b >= 64 ? "GROUND" : "WASTE";
        } else if (b >= 32) {
            text += (char) b;
        } else if (b == 7) {
            title = text.length() > 16 ? text.substring(0, 16) : text;
            state = "GROUND";
        }
    }

    private void ground(int b) {
        if (b < 127) {
            print(b);
        } else if (b < 194 || b > 244) {
            print(65533);
        } else {
            open.add(b);
        }
    }

    private void closeLetter() {
        int length = open.get(0) >= 240 ? 4 : open.get(0) >= 224 ? 3 : 2;
        if (open.size() < length) {
            return;
        }
        long code = open.get(0) % (length == 2 ? 32 : length == 3 ? 16 : 8);
        for (int i = 1; i < length; i++) {
            code = code * 64 + open.get(i) - 128;
        }
        open.clear();
        boolean tooLow = code < (length == 2 ? 0x80 : length == 3 ? 0x800 : 0x10000);
        boolean surrogate = code >= 0xd800 && code < 0xe000;
        print(tooLow || surrogate || code > 0x10ffff ? 0xfffd : (int) code);
    }

    private void control(int b) {
        if (b == 7) {
            bells++;
        }
        if (b == 8) {
            place(row, column == 0 ? 0 : column - 1);
        }
        if (b == 9) {
            int next = column + 1;
            while (next < 12 && !stops[next]) {
                next++;
            }
            place(row, next > 11 ? 11 : next);
        }
        if (b == 10 || b == 11 || b == 12) {
            feeding();
        }
        if (b == 13) {
            place(row, 0);
        }
    }

    private void escape(char b) {
        text = "";
        state = b == '[' ? "SEQUENCE" : b == ']' ? "TITLE" : b <= 47 ? "WASTE" : "GROUND";
        if (b == '7') {
            save();
        }
        if (b == '8') {
            restore();
        }
        if (b == 'D') {
            feeding();
        }
        if (b == 'E') {
            place(row, 0);
            feeding();
        }
        if (b == 'H') {
            stops[column] = true;
        }
        if (b == 'M') {
            backing();
        }
        if (b == 'c') {
            atFirst();
        }
    }

    private void sequence(char b) {
        if (b >= 64) {
            state = "GROUND";
            perform(b);
        } else if (Character.isDigit(b) || b == ';' || b == '?' && text.isEmpty()) {
            text += b;
        } else {
            state = "WASTE";
        }
    }

    private static List<Integer> read(String numbers) {
        List<Integer> values = new ArrayList<>();
        if (numbers.isEmpty()) {
            return values;
        }
        for (String number : numbers.split(";", -1)) {
            if (values.size() < 6) {
                java.math.BigInteger value = new java.math.BigInteger("0" + number);
                values.add(value.min(java.math.BigInteger.valueOf(9999)).intValue());
            }
        }
        return values;
    }

    private void perform(char end) {
        if (text.startsWith("?")) {
            for (int number : read(text.substring(1))) {
                if (end == 'h' || end == 'l') {
                    performPrivate(number, end == 'h');
                }
            }
            return;
        }
        List<Integer> numbers = read(text);
        int p = numbers.size() > 0 ? numbers.get(0) : 0;
        int q = numbers.size() > 1 ? numbers.get(1) : 0;
        int n = p == 0 ? 1 : p;
        move(end, n, q);
        clear(end, p, n);
        for (int i = 0; i < n; i++) {
            stepwise(end, i);
        }
        settings(end, n, p, q);
        for (int number : numbers) {
            if (number == 4 && (end == 'h' || end == 'l')) {
                insert = end == 'h';
            }
        }
        if (end == 'm') {
            for (int number : numbers.isEmpty() ? List.of(0) : numbers) {
                colourPen(number);
            }
        }
    }

    private void performPrivate(int number, boolean on) {
        if (number == 6) {
            origin = on;
            move('H', 1, 0);
        }
        if (number == 7) {
            wrap = on;
        }
        if (number == 47 && on && shown == 0) {
            pages.set(1, blankPage());
            shown = 1;
        }
        if (number == 47 && !on) {
            shown = 0;
        }
    }

    private void move(char end, int n, int q) {
        for (int i = 0; i < n; i++) {
            if ((end == 'A' || end == 'F') && row != top && row != 0) {
                row--;
            }
            if ((end == 'B' || end == 'E') && row != bottom && row != 7) {
                row++;
            }
            if (end == 'C' && column < 11) {
                column++;
            }
            if (end == 'D' && column > 0) {
                column--;
            }
        }
        if (end == 'E' || end == 'F') {
            column = 0;
        }
        if (end == 'G') {
            column = n > 12 ? 11 : n - 1;
        }
        if (end == 'd') {
            row = n > 8 ? 7 : n - 1;
        }
        if (end == 'H' || end == 'f') {
            row = Math.min(origin ? bottom : 7, n - 1 + (origin ? top : 0));
            column = q == 0 ? 0 : Math.min(q, 12) - 1;
        }
        if ("ABCDEFGdHf".indexOf(end) >= 0) {
            full = false;
        }
    }

    private void clear(char end, int p, int n) {
        for (int r = 0; r < 8; r++) {
            for (int c = 0; c < 12; c++) {
                boolean behind = r > row || r == row && c >= column;
                boolean before = r < row || r == row && c <= column;
                boolean asked = p == 0 && behind || p == 1 && before || p == 2;
                boolean cleared = end == 'J' && asked || end == 'K' && asked && r == row
                    || end == 'X' && r == row && c >= column && c < column + n;
                if (cleared) {
                    page().get(r).set(c, BLANK);
                }
            }
        }
    }

    private void stepwise(char end, int i) {
        List<Cell> cells = page().get(row);
        boolean within = row >= top && row <= bottom;
        if (end == '@') {
            cells.add(column, BLANK);
            cells.remove(12);
        }
        if (end == 'P') {
            cells.remove(column);
            cells.add(BLANK);
        }
        if (end == 'L' && within) {
            scrollDown(row);
        }
        if (end == 'M' && within) {
            scrollUp(row);
        }
        if (end == 'S') {
            scrollUp(top);
        }
        if (end == 'T') {
            scrollDown(top);
        }
        if (end == 'b' && last != null && i < 24) {
            print(last);
        }
    }

    private void settings(char end, int n, int p, int q) {
        int low = q == 0 ? 7 : q - 1;
        if (end == 'r' && n - 1 < low && low <= 7) {
            top = n - 1;
            bottom = low;
            move('H', 1, 0);
        }
        if (end == 's') {
            save();
        }
        if (end == 'u') {
            restore();
        }
        if (end == 'g' && p == 0) {
            stops[column] = false;
        }
        if (end == 'g' && p == 3) {
            Arrays.fill(stops, false);
        }
        if (end == 'n' && p == 5) {
            answer("\33[0n");
        }
        if (end == 'n' && p == 6) {
            int told = !origin ? row + 1 : row < top ? 0 : row - top + 1;
            answer("\33[" + told + ";" + (column + 1) + "R");
        }
    }

    private void answer(String bytes) {
        if (replies.size() + bytes.length() <= 64) {
            for (char b : bytes.toCharArray()) {
                replies.add((int) b);
            }
        }
    }

    private void colourPen(int number) {
        if (number == 0) {
            setPen(0);
        }
        bold = number == 1 ? 1 : number == 22 ? 0 : bold;
        underlined = number == 4 ? 1 : number == 24 ? 0 : underlined;
        reversed = number == 7 ? 1 : number == 27 ? 0 : reversed;
        colour = number / 10 == 3 ? number == 39 ? 0 : number == 38 ? colour : number - 29 : colour;
        ground = number / 10 == 4 && number != 4 ? number == 49 ? 0 : number == 48 ? ground : number - 39 : ground;
    }
}
