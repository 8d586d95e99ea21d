import java.util.NoSuchElementException;

/**
 * A screen of characters that a stream of bytes draws on. This class takes the bytes apart by the
 * state; what they do on the screen stands in Screen.
 */
public final class ScreenDesk {
    private static final int ROWS = 8;
    private static final int COLUMNS = 12;
    private static final int LAST_ROW = ROWS - 1;
    private static final int LAST_COLUMN = COLUMNS - 1;
    private static final int CELLS = ROWS * COLUMNS;

    private static final int BLANK_CODE = 32;
    private static final int BLANK_LOOK = 0;
    private static final int WRONG_LETTER = 65533;
    private static final int NO_CODE = -1;

    private static final int GROUND = 0;
    private static final int ESCAPE = 1;
    private static final int SEQUENCE = 2;
    private static final int WASTE = 3;
    private static final int TITLE = 4;

    private static final int BELL = 7;
    private static final int ESCAPE_BYTE = 27;
    private static final int DELETE_BYTE = 127;

    private static final int MOST_NUMBERS = 6;
    private static final int GREATEST_NUMBER = 9999;
    private static final int MOST_REPEATS = 24;
    private static final int MOST_TITLE = 16;
    private static final int MOST_WAITING = 64;

    private static final int BOLD = 1;
    private static final int UNDERLINED = 2;
    private static final int REVERSED = 4;
    private static final int COLOUR_UNIT = 8;
    private static final int BACK_UNIT = 128;
    // Four bits hold 0 .. 8, so colour and ground never run into each other.
    private static final int COLOUR_BITS = 15 * COLOUR_UNIT;
    private static final int BACK_BITS = 15 * BACK_UNIT;

    private static final int FIRST_TAB_STOPS = 1 << 4 | 1 << 8;

    private final Screen screen = new Screen();
    private final Letter letter = new Letter();
    private final Numbers numbers = new Numbers();
    private final Text name = new Text();
    private final Text collected = new Text();
    private final Replies replies = new Replies();
    private int stage = GROUND;

    public ScreenDesk() {
        reset();
    }

    public boolean feed(int b) {
        if (b < 0 || b > 255) {
            return false;
        }
        take(b);
        return true;
    }

    public int feedAll(long bytes) {
        int taken = 0;
        for (int i = 0; i < 8; i++) {
            int b = (int) (bytes >>> (8 * i)) & 255;
            if (b == 0) {
                return taken;
            }
            take(b);
            taken++;
        }
        return taken;
    }

    public int row() {
        return screen.cursor.row;
    }

    public int column() {
        return screen.cursor.column;
    }

    public boolean full() {
        return screen.cursor.full;
    }

    public int pen() {
        return screen.cursor.pen;
    }

    public int mode(int k) {
        switch (k) {
            case 0: return screen.insert ? 1 : 0;
            case 1: return screen.cursor.origin ? 1 : 0;
            case 2: return screen.wrap ? 1 : 0;
            case 3: return screen.secondShown ? 1 : 0;
            default: return -1;
        }
    }

    public int region() {
        return 8 * screen.top + screen.bottom;
    }

    public boolean tab(int column) {
        return screen.hasTabStop(column);
    }

    public int bells() {
        return screen.bellsRung;
    }

    public int state() {
        return stage;
    }

    public int code(int row, int column) throws IndexOutOfBoundsException {
        if (!isCell(row, column)) {
            throw new IndexOutOfBoundsException();
        }
        return screen.page().codes[row * COLUMNS + column];
    }

    public int look(int row, int column) throws IndexOutOfBoundsException {
        if (!isCell(row, column)) {
            throw new IndexOutOfBoundsException();
        }
        return screen.page().looks[row * COLUMNS + column];
    }

    public int cells(int code, int look) {
        return screen.page().count(code, look);
    }

    public int waiting() {
        return replies.held;
    }

    public int reply() throws NoSuchElementException {
        if (replies.held <= 0) {
            throw new NoSuchElementException();
        }
        return replies.takeFirst();
    }

    public int title(int i) {
        return name.characterAt(i);
    }

    private static boolean isCell(int row, int column) {
        return row >= 0 && row < ROWS && column >= 0 && column < COLUMNS;
    }

    private void reset() {
        screen.reset();
        letter.drop();
        numbers.begin();
        name.clear();
        collected.clear();
        replies.clear();
        stage = GROUND;
    }

    private void take(int b) {
        if (letter.missing > 0) {
            if (b >= 128 && b <= 191) {
                takeFurther(b);
                return;
            }
            letter.drop();
            screen.print(WRONG_LETTER);
        }
        if (b == 24 || b == 26) {
            stage = GROUND;
        } else if (b == ESCAPE_BYTE) {
            stage = ESCAPE;
        } else if (b < 32 && stage != TITLE) {
            control(b);
        } else if (stage == GROUND) {
            takeInGround(b);
        } else if (b >= DELETE_BYTE) {
            return;
        } else if (stage == ESCAPE) {
            takeInEscape(b);
        } else if (stage == TITLE) {
            takeInTitle(b);
        } else if (b < 64) {
            takeBeforeEnd(b);
        } else if (stage == SEQUENCE) {
            doSequence(b);
        } else {
            stage = GROUND;
        }
    }

    private void takeFurther(int b) {
        letter.add(b);
        if (letter.missing == 0) {
            screen.print(letter.whole());
        }
    }

    private void takeInGround(int b) {
        if (b < DELETE_BYTE) {
            screen.print(b);
        } else if (b >= 194 && b <= 244) {
            letter.begin(b);
        } else if (b > DELETE_BYTE) {
            screen.print(WRONG_LETTER);
        }
    }

    private void control(int b) {
        switch (b) {
            case BELL: screen.bellsRung++; break;
            case 8: screen.moveLeft(1); break;
            case 9: screen.moveToTabStop(); break;
            case 10:
            case 11:
            case 12: screen.feedRow(); break;
            case 13: screen.moveToColumn(0); break;
            default: break;
        }
    }

    private void takeInEscape(int b) {
        stage = b < 48 ? WASTE : GROUND;
        switch (b) {
            case '[': numbers.begin(); stage = SEQUENCE; break;
            case ']': collected.clear(); stage = TITLE; break;
            case '7': screen.save(); break;
            case '8': screen.restore(); break;
            case 'D': screen.feedRow(); break;
            case 'E': screen.moveToColumn(0); screen.feedRow(); break;
            case 'H': screen.setTabStop(); break;
            case 'M': screen.backRow(); break;
            case 'c': reset(); break;
            default: break;
        }
    }

    private void takeBeforeEnd(int b) {
        if (stage == WASTE) {
            return;
        }
        if (b >= '0' && b <= '9') {
            numbers.addDigit(b - '0');
        } else if (b == ';') {
            numbers.next();
        } else if (b == '?' && numbers.isUntouched()) {
            numbers.secret = true;
        } else {
            stage = WASTE;
        }
    }

    private void takeInTitle(int b) {
        if (b >= 32) {
            collected.add(b);
        } else if (b == BELL) {
            name.copyFrom(collected);
            stage = GROUND;
        }
    }

    private void doSequence(int last) {
        stage = GROUND;
        if (numbers.secret) {
            doPrivate(last);
            return;
        }
        int p = numbers.valueAt(0);
        int q = numbers.valueAt(1);
        int n = p == 0 ? 1 : p;
        switch (last) {
            case 'A': screen.moveUp(n); break;
            case 'B': screen.moveDown(n); break;
            case 'C': screen.moveRight(n); break;
            case 'D': screen.moveLeft(n); break;
            case 'E': screen.moveDown(n); screen.moveToColumn(0); break;
            case 'F': screen.moveUp(n); screen.moveToColumn(0); break;
            case 'G': screen.moveToColumn(n - 1); break;
            case 'd': screen.moveToRow(n - 1); break;
            case 'H':
            case 'f': screen.moveTo(n - 1, q == 0 ? 0 : q - 1); break;
            case 'J': screen.clearInPage(p); break;
            case 'K': screen.clearInRow(p); break;
            case 'X': screen.clearCells(n); break;
            case '@': screen.putInCells(n); break;
            case 'P': screen.takeOutCells(n); break;
            case 'L': screen.putInRows(n); break;
            case 'M': screen.takeOutRows(n); break;
            case 'S': screen.scrollUp(n); break;
            case 'T': screen.scrollDown(n); break;
            case 'b': screen.repeat(n); break;
            case 'm': paintAll(); break;
            case 'r': screen.setRegion(n - 1, q == 0 ? LAST_ROW : q - 1); break;
            case 's': screen.save(); break;
            case 'u': screen.restore(); break;
            case 'g': screen.removeTabStops(p); break;
            case 'h': switchInsert(true); break;
            case 'l': switchInsert(false); break;
            case 'n': answer(p); break;
            default: break;
        }
    }

    private void doPrivate(int last) {
        if (last != 'h' && last != 'l') {
            return;
        }
        for (int i = 0; i < numbers.kept(); i++) {
            screen.switchPrivate(numbers.valueAt(i), last == 'h');
        }
    }

    private void paintAll() {
        // A number that is not there is 0, and 0 is what m does if none was begun.
        int times = Math.max(1, numbers.kept());
        for (int i = 0; i < times; i++) {
            screen.cursor.paint(numbers.valueAt(i));
        }
    }

    private void switchInsert(boolean on) {
        for (int i = 0; i < numbers.kept(); i++) {
            if (numbers.valueAt(i) == 4) {
                screen.insert = on;
            }
        }
    }

    private void answer(int p) {
        if (p == 5) {
            replies.addWell();
        } else if (p == 6) {
            replies.addPosition(screen.rowToTell(), screen.cursor.column + 1);
        }
    }

    /** The cells of one page, row behind row, so that rows move as their cells do. */
    private static final class Page {
        final int[] codes = new int[CELLS];
        final int[] looks = new int[CELLS];

        void put(int at, int code, int look) {
            if (at < 0 || at >= CELLS) {
                return;
            }
            codes[at] = code;
            looks[at] = look;
        }

        void clear(int from, int to) {
            if (from < 0 || to >= CELLS) {
                return;
            }
            for (int at = from; at <= to; at++) {
                codes[at] = BLANK_CODE;
                looks[at] = BLANK_LOOK;
            }
        }

        /** Moves the cells from .. to towards from; blank ones come in at to. */
        void pull(int from, int to, int by) {
            if (from < 0 || to >= CELLS || by < 0) {
                return;
            }
            for (int at = from; at <= to; at++) {
                boolean comes = by <= to - at;
                codes[at] = comes ? codes[at + by] : BLANK_CODE;
                looks[at] = comes ? looks[at + by] : BLANK_LOOK;
            }
        }

        /** Moves the cells from .. to towards to; blank ones come in at from. */
        void push(int from, int to, int by) {
            if (from < 0 || to >= CELLS || by < 0) {
                return;
            }
            for (int at = to; at >= from; at--) {
                boolean comes = by <= at - from;
                codes[at] = comes ? codes[at - by] : BLANK_CODE;
                looks[at] = comes ? looks[at - by] : BLANK_LOOK;
            }
        }

        int count(int code, int look) {
            int found = 0;
            for (int at = 0; at < CELLS; at++) {
                if (codes[at] == code && (look < 0 || looks[at] == look)) {
                    found++;
                }
            }
            return found;
        }
    }

    /** The cursor with the pen and ORIGIN: just what is saved and comes back together. */
    private static final class Cursor {
        int row;
        int column;
        boolean full;
        int pen;
        boolean origin;

        void reset() {
            place(0, 0);
            pen = 0;
            origin = false;
        }

        void copyFrom(Cursor other) {
            if (other == null) {
                return;
            }
            row = other.row;
            column = other.column;
            full = other.full;
            pen = other.pen;
            origin = other.origin;
        }

        void place(int newRow, int newColumn) {
            row = newRow;
            column = newColumn;
            full = false;
        }

        void paint(int number) {
            switch (number) {
                case 0: pen = 0; break;
                case 1: pen |= BOLD; break;
                case 4: pen |= UNDERLINED; break;
                case 7: pen |= REVERSED; break;
                case 22: pen &= ~BOLD; break;
                case 24: pen &= ~UNDERLINED; break;
                case 27: pen &= ~REVERSED; break;
                case 39: setColour(0); break;
                case 49: setGround(0); break;
                default: paintColour(number); break;
            }
        }

        private void paintColour(int number) {
            if (number >= 30 && number <= 37) {
                setColour(number - 29);
            } else if (number >= 40 && number <= 47) {
                setGround(number - 39);
            }
        }

        private void setColour(int colour) {
            pen = pen & ~COLOUR_BITS | colour * COLOUR_UNIT;
        }

        private void setGround(int ground) {
            pen = pen & ~BACK_BITS | ground * BACK_UNIT;
        }
    }

    /** Both pages and all that acts on them. */
    private static final class Screen {
        final Page firstPage = new Page();
        final Page secondPage = new Page();
        final Cursor cursor = new Cursor();
        final Cursor saved = new Cursor();
        int top;
        int bottom;
        int tabStops;
        boolean insert;
        boolean wrap;
        boolean secondShown;
        int bellsRung;
        int lastCode;

        void reset() {
            firstPage.clear(0, CELLS - 1);
            secondPage.clear(0, CELLS - 1);
            cursor.reset();
            saved.reset();
            top = 0;
            bottom = LAST_ROW;
            tabStops = FIRST_TAB_STOPS;
            insert = false;
            wrap = true;
            secondShown = false;
            bellsRung = 0;
            lastCode = NO_CODE;
        }

        Page page() {
            return secondShown ? secondPage : firstPage;
        }

        void save() {
            saved.copyFrom(cursor);
        }

        void restore() {
            cursor.copyFrom(saved);
        }

        void print(int code) {
            if (cursor.full) {
                cursor.column = 0;
                feedRow();
            }
            if (insert) {
                page().push(cell(), rowEnd(), 1);
            }
            page().put(cell(), code, cursor.pen);
            if (cursor.column < LAST_COLUMN) {
                cursor.column++;
            } else {
                cursor.full = wrap;
            }
            lastCode = code;
        }

        void repeat(int n) {
            if (lastCode == NO_CODE) {
                return;
            }
            int times = Math.min(n, MOST_REPEATS);
            for (int i = 0; i < times; i++) {
                print(lastCode);
            }
        }

        void feedRow() {
            if (cursor.row == bottom) {
                page().pull(regionStart(), regionEnd(), COLUMNS);
            } else if (cursor.row < LAST_ROW) {
                cursor.row++;
            }
            cursor.full = false;
        }

        void backRow() {
            if (cursor.row == top) {
                page().push(regionStart(), regionEnd(), COLUMNS);
            } else if (cursor.row > 0) {
                cursor.row--;
            }
            cursor.full = false;
        }

        void scrollUp(int n) {
            page().pull(regionStart(), regionEnd(), n * COLUMNS);
        }

        void scrollDown(int n) {
            page().push(regionStart(), regionEnd(), n * COLUMNS);
        }

        void putInRows(int n) {
            if (isInRegion()) {
                page().push(rowStart(), regionEnd(), n * COLUMNS);
            }
        }

        void takeOutRows(int n) {
            if (isInRegion()) {
                page().pull(rowStart(), regionEnd(), n * COLUMNS);
            }
        }

        void putInCells(int n) {
            page().push(cell(), rowEnd(), n);
        }

        void takeOutCells(int n) {
            page().pull(cell(), rowEnd(), n);
        }

        void clearCells(int n) {
            page().clear(cell(), Math.min(cell() + n - 1, rowEnd()));
        }

        void clearInPage(int p) {
            clearWithin(0, CELLS - 1, p);
        }

        void clearInRow(int p) {
            clearWithin(rowStart(), rowEnd(), p);
        }

        private void clearWithin(int first, int last, int p) {
            switch (p) {
                case 0: page().clear(cell(), last); break;
                case 1: page().clear(first, cell()); break;
                case 2: page().clear(first, last); break;
                default: break;
            }
        }

        void moveUp(int n) {
            int limit = cursor.row >= top ? top : 0;
            cursor.place(Math.max(limit, cursor.row - n), cursor.column);
        }

        void moveDown(int n) {
            int limit = cursor.row <= bottom ? bottom : LAST_ROW;
            cursor.place(Math.min(limit, cursor.row + n), cursor.column);
        }

        void moveLeft(int n) {
            moveToColumn(Math.max(0, cursor.column - n));
        }

        void moveRight(int n) {
            moveToColumn(cursor.column + n);
        }

        void moveToColumn(int column) {
            cursor.place(cursor.row, Math.min(LAST_COLUMN, column));
        }

        void moveToRow(int row) {
            cursor.place(Math.min(LAST_ROW, row), cursor.column);
        }

        void moveTo(int row, int column) {
            int asked = cursor.origin ? top + row : row;
            int limit = cursor.origin ? bottom : LAST_ROW;
            cursor.place(Math.min(limit, asked), Math.min(LAST_COLUMN, column));
        }

        void moveToTabStop() {
            int column = cursor.column + 1;
            while (column < LAST_COLUMN && !hasTabStop(column)) {
                column++;
            }
            moveToColumn(column);
        }

        boolean hasTabStop(int column) {
            return column >= 0 && column < COLUMNS && (tabStops >> column & 1) == 1;
        }

        void setTabStop() {
            tabStops |= 1 << cursor.column;
        }

        void removeTabStops(int p) {
            if (p == 0) {
                tabStops &= ~(1 << cursor.column);
            } else if (p == 3) {
                tabStops = 0;
            }
        }

        void setRegion(int newTop, int newBottom) {
            if (newTop < newBottom && newBottom <= LAST_ROW) {
                top = newTop;
                bottom = newBottom;
                moveTo(0, 0);
            }
        }

        void switchPrivate(int number, boolean on) {
            switch (number) {
                case 6: cursor.origin = on; moveTo(0, 0); break;
                case 7: wrap = on; break;
                case 47: showPage(on); break;
                default: break;
            }
        }

        private void showPage(boolean second) {
            // Turning to the second page again must not wipe what is being drawn on it.
            if (second && !secondShown) {
                secondPage.clear(0, CELLS - 1);
            }
            secondShown = second;
        }

        int rowToTell() {
            if (!cursor.origin) {
                return cursor.row + 1;
            }
            return cursor.row < top ? 0 : cursor.row - top + 1;
        }

        private boolean isInRegion() {
            return cursor.row >= top && cursor.row <= bottom;
        }

        private int cell() {
            return rowStart() + cursor.column;
        }

        private int rowStart() {
            return cursor.row * COLUMNS;
        }

        private int rowEnd() {
            return rowStart() + LAST_COLUMN;
        }

        private int regionStart() {
            return top * COLUMNS;
        }

        private int regionEnd() {
            return bottom * COLUMNS + LAST_COLUMN;
        }
    }

    /** A letter of several bytes, while some of them are missing. */
    private static final class Letter {
        int missing;
        int bits;
        int least;

        void drop() {
            missing = 0;
        }

        void begin(int b) {
            if (b < 224) {
                start(1, b & 31, 128);
            } else if (b < 240) {
                start(2, b & 15, 2048);
            } else {
                start(3, b & 7, 65536);
            }
        }

        private void start(int further, int highest, int leastCode) {
            missing = further;
            bits = highest;
            least = leastCode;
        }

        void add(int b) {
            bits = bits << 6 | b & 63;
            missing--;
        }

        int whole() {
            boolean halfOfPair = bits >= 55296 && bits <= 57343;
            return bits < least || halfOfPair || bits > 1114111 ? WRONG_LETTER : bits;
        }
    }

    /** The numbers of a sequence. */
    private static final class Numbers {
        final int[] values = new int[MOST_NUMBERS];
        int begun;
        boolean secret;

        void begin() {
            for (int i = 0; i < MOST_NUMBERS; i++) {
                values[i] = 0;
            }
            begun = 0;
            secret = false;
        }

        boolean isUntouched() {
            return begun == 0 && !secret;
        }

        void addDigit(int digit) {
            begun = Math.max(1, begun);
            int at = begun - 1;
            if (at < MOST_NUMBERS) {
                values[at] = Math.min(GREATEST_NUMBER, values[at] * 10 + digit);
            }
        }

        void next() {
            // The first semicolon ends a number, too, even one without digits. One number beyond
            // those that are kept is enough to know that digits go nowhere.
            begun = Math.min(MOST_NUMBERS + 1, Math.max(1, begun) + 1);
        }

        int kept() {
            return Math.min(begun, MOST_NUMBERS);
        }

        int valueAt(int i) {
            return i >= 0 && i < MOST_NUMBERS ? values[i] : 0;
        }
    }

    /** A title, or what is collected for one. */
    private static final class Text {
        final int[] characters = new int[MOST_TITLE];
        int length;

        void clear() {
            length = 0;
        }

        void add(int character) {
            if (length >= 0 && length < MOST_TITLE) {
                characters[length] = character;
                length++;
            }
        }

        void copyFrom(Text other) {
            if (other == null) {
                return;
            }
            for (int i = 0; i < MOST_TITLE; i++) {
                characters[i] = other.characters[i];
            }
            length = other.length;
        }

        int characterAt(int i) {
            return i >= 0 && i < length && i < MOST_TITLE ? characters[i] : -1;
        }
    }

    /** The bytes of replies that wait, the first one in front. */
    private static final class Replies {
        final int[] bytes = new int[MOST_WAITING];
        int held;

        void clear() {
            held = 0;
        }

        void addWell() {
            if (hasRoom(4)) {
                add(ESCAPE_BYTE);
                add('[');
                add('0');
                add('n');
            }
        }

        /** The row has one digit, the column may have two. */
        void addPosition(int row, int column) {
            boolean twoDigits = column > 9;
            if (!hasRoom(twoDigits ? 7 : 6)) {
                return;
            }
            add(ESCAPE_BYTE);
            add('[');
            add('0' + row);
            add(';');
            if (twoDigits) {
                add('0' + column / 10);
            }
            add('0' + column % 10);
            add('R');
        }

        int takeFirst() {
            int first = bytes[0];
            for (int i = 1; i < MOST_WAITING; i++) {
                bytes[i - 1] = bytes[i];
            }
            held--;
            return first;
        }

        private boolean hasRoom(int length) {
            return held + length <= MOST_WAITING;
        }

        private void add(int b) {
            if (held >= 0 && held < MOST_WAITING) {
                bytes[held] = b;
                held++;
            }
        }
    }
}
