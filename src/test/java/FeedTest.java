/** Promises 2 and 3: feed and feedAll. */
public final class FeedTest {
    public static void main(String[] args) {
        feedTakesBytesAlone();
        wrongBytesLeaveALetterOpen();
        feedAllTakesFromTheLowestOn();
        feedAllEndsAtZero();
        feedAllTakesEveryBit();
        Probe.finish();
    }

    private static void feedTakesBytesAlone() {
        Probe probe = new Probe("feed");
        int[] wrong = {-1, 256, 257, 256 + 'a', -159, Integer.MIN_VALUE, Integer.MAX_VALUE};
        for (int b : wrong) {
            Probe.same("feed(" + b + ")", probe.desk.feed(b), false);
        }
        probe.atFirst();
        for (int b = 0; b < 256; b++) {
            Probe.same("feed(" + b + ")", new ScreenDesk().feed(b), true);
        }
    }

    private static void wrongBytesLeaveALetterOpen() {
        Probe probe = new Probe("feed within a letter").bytes(195);
        Probe.same("feed(256)", probe.desk.feed(256), false);
        Probe.same("feed(-1)", probe.desk.feed(-1), false);
        probe.cursor(0, 0).bytes(164).code(0, 0, 228).cursor(0, 1);
        Probe sequence = new Probe("feed within a sequence").send(Probe.CSI + "3");
        Probe.same("feed(300)", sequence.desk.feed(300), false);
        sequence.state(2).send("G").cursor(0, 2);
    }

    private static void feedAllTakesFromTheLowestOn() {
        Probe probe = new Probe("feedAll");
        Probe.same("eight", probe.desk.feedAll(0x6867666564636261L), 8);
        probe.line(0, "abcdefgh    ").cursor(0, 8);
        Probe.same("three", probe.desk.feedAll(0x6b6a69L), 3);
        probe.line(0, "abcdefghijk ");
        Probe.same("a sequence", probe.desk.feedAll(0x4833_3b32_5b1bL), 6);
        probe.cursor(1, 2);
    }

    private static void feedAllEndsAtZero() {
        Probe probe = new Probe("feedAll with 0");
        Probe.same("none", probe.desk.feedAll(0), 0);
        Probe.same("lowest is 0", probe.desk.feedAll(0x6162636465666700L), 0);
        probe.atFirst();
        Probe.same("0 in the midst", probe.desk.feedAll(0x6160_0063_6261L), 3);
        probe.line(0, "abc         ");
        probe.bytes(195);
        Probe.same("0 behind a part", probe.desk.feedAll(0x6100L), 0);
        probe.cursor(0, 3).bytes(164).code(0, 3, 228);
    }

    private static void feedAllTakesEveryBit() {
        Probe probe = new Probe("feedAll of 255");
        Probe.same("-1", probe.desk.feedAll(-1L), 8);
        probe.cells(65533, 0, 8);
        Probe.same("highest alone", probe.desk.feedAll(0xff61616161616161L), 8);
        probe.cells(65533, 0, 9).cells('a', 0, 7).cursor(1, 4);
    }
}
