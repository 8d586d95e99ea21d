import java.util.List;
import java.util.Random;

/** Many runs from a fixed seed: the desk answers as the second telling does, and nothing throws by itself. */
public final class RandomRunsTest {
    private static final List<String> STATES = List.of("GROUND", "ESCAPE", "SEQUENCE", "WASTE", "TITLE");
    private static final String LASTS = "ABCDEFGdHfJKX@PLMSTbmrsughln";
    private static final String ESCAPES = "78DEHM78DEHM[]=c(";
    private static final int[] NUMBERS = {0, 1, 2, 3, 4, 5, 6, 7, 8, 9, 10, 11, 12, 13, 22, 24, 27, 30, 37, 39, 40, 47, 49,
        23, 25, 26, 9998, 9999, 10000, 123456789};

    public static void main(String[] args) {
        for (int seed = 0; seed < 4000; seed++) {
            run(seed);
        }
        Probe.finish();
    }

    /** At most 512 calls: 90 pieces of up to 3, and 230 at the end. */
    private static void run(int seed) {
        Random random = new Random(seed);
        ScreenDesk desk = new ScreenDesk();
        PlainDesk plain = new PlainDesk();
        boolean wild = seed % 4 == 0;
        for (int i = 0; i < 90; i++) {
            String bytes = wild ? anything(random) : piece(random);
            feed(desk, plain, bytes);
            if (random.nextInt(12) == 0 && !plain.replies.isEmpty()) {
                Probe.same("seed " + seed + " reply", desk.reply(), plain.replies.remove());
            }
        }
        compare("seed " + seed, desk, plain);
    }

    private static void feed(ScreenDesk desk, PlainDesk plain, String bytes) {
        for (int from = 0; from < bytes.length(); from += 8) {
            long packed = 0;
            int length = Math.min(8, bytes.length() - from);
            for (int i = length - 1; i >= 0; i--) {
                packed = packed << 8 | bytes.charAt(from + i);
            }
            int zero = bytes.substring(from, from + length).indexOf(0);
            Probe.same("feedAll", desk.feedAll(packed), zero < 0 ? length : zero);
            for (int i = 0; i < (zero < 0 ? length : zero); i++) {
                plain.take(bytes.charAt(from + i));
            }
        }
    }

    private static String anything(Random random) {
        StringBuilder bytes = new StringBuilder();
        for (int i = random.nextInt(8); i >= 0; i--) {
            int kind = random.nextInt(10);
            bytes.append(kind == 0 ? (char) 27 : kind == 1 ? '[' : kind == 2 ? ';' : kind == 3 ? '?'
                : kind < 6 ? (char) random.nextInt(256) : kind == 6 ? (char) ('0' + random.nextInt(10))
                : kind == 7 ? LASTS.charAt(random.nextInt(LASTS.length())) : (char) (32 + random.nextInt(95)));
        }
        return bytes.toString();
    }

    private static String piece(Random random) {
        switch (random.nextInt(10)) {
            case 0: return String.valueOf((char) (random.nextInt(3) == 0 ? random.nextInt(32) : 8 + random.nextInt(6)));
            case 1: return "\33" + ESCAPES.charAt(random.nextInt(ESCAPES.length()));
            case 2: return letter(random);
            case 3:
            case 4: return letters(random);
            case 5: return "\33[?" + new int[] {6, 7, 47, 4}[random.nextInt(4)] + (random.nextInt(3) > 0 ? "h" : "l");
            default: return sequence(random);
        }
    }

    private static String letters(Random random) {
        StringBuilder bytes = new StringBuilder();
        for (int i = random.nextInt(14); i >= 0; i--) {
            bytes.append((char) ('a' + random.nextInt(26)));
        }
        return bytes.toString();
    }

    private static String letter(Random random) {
        StringBuilder bytes = new StringBuilder();
        bytes.append((char) (190 + random.nextInt(60)));
        for (int i = random.nextInt(4); i > 0; i--) {
            bytes.append((char) (128 + random.nextInt(random.nextInt(8) == 0 ? 128 : 64)));
        }
        return bytes.toString();
    }

    private static String sequence(Random random) {
        StringBuilder bytes = new StringBuilder("\33[");
        int count = random.nextInt(10) == 0 ? random.nextInt(9) : random.nextInt(3);
        for (int i = 0; i < count; i++) {
            bytes.append(i > 0 ? ";" : "");
            if (random.nextInt(6) > 0) {
                bytes.append(NUMBERS[random.nextInt(random.nextBoolean() ? 9 : NUMBERS.length)]);
            }
        }
        return bytes.append(LASTS.charAt(random.nextInt(LASTS.length()))).toString();
    }

    private static void compare(String what, ScreenDesk desk, PlainDesk plain) {
        Probe.same(what + " row", desk.row(), plain.row);
        Probe.same(what + " column", desk.column(), plain.column);
        Probe.same(what + " full", desk.full(), plain.full);
        Probe.same(what + " pen", desk.pen(), plain.pen());
        Probe.same(what + " INSERT", desk.mode(0), plain.insert ? 1 : 0);
        Probe.same(what + " ORIGIN", desk.mode(1), plain.origin ? 1 : 0);
        Probe.same(what + " WRAP", desk.mode(2), plain.wrap ? 1 : 0);
        Probe.same(what + " page", desk.mode(3), plain.shown);
        Probe.same(what + " region", desk.region(), 8 * plain.top + plain.bottom);
        Probe.same(what + " bells", desk.bells(), plain.bells);
        Probe.same(what + " state", desk.state(), STATES.indexOf(plain.state));
        Probe.same(what + " waiting", desk.waiting(), plain.replies.size());
        for (int i = 0; i < 12; i++) {
            Probe.same(what + " tab " + i, desk.tab(i), plain.stops[i]);
        }
        for (int i = 0; i < 17; i++) {
            Probe.same(what + " title " + i, desk.title(i), i < plain.title.length() ? plain.title.charAt(i) : -1);
        }
        for (int row = 0; row < 8; row++) {
            for (int column = 0; column < 12; column++) {
                PlainDesk.Cell cell = plain.page().get(row).get(column);
                Probe.same(what + " code " + row + " " + column, desk.code(row, column), cell.code());
                Probe.same(what + " look " + row + " " + column, desk.look(row, column), cell.look());
            }
        }
    }
}
