/** 'What it is': one picture that all kinds of bytes draw together. */
public final class DrawingTest {
    public static void main(String[] args) {
        Sentence.holds("A screen of characters that a stream of bytes draws on: letters in one to four bytes,",
            DrawingTest::lettersInOneToFourBytes);
        Sentence.holds("and sequences that move the cursor, clear, put in, take out, scroll, colour, and turn to a second page.",
            DrawingTest::sequences);
        Probe.finish();
    }

    private static void lettersInOneToFourBytes() {
        Probe probe = new Probe("letters").bytes('a', 0xc3, 0xa4, 0xe2, 0x82, 0xac, 0xf0, 0x9f, 0x98, 0x80, 'b');
        probe.code(0, 0, 'a').code(0, 1, 228).code(0, 2, 8364).code(0, 3, 128512).code(0, 4, 'b').cursor(0, 5);
        probe.cells(32, 0, 91);
    }

    private static void sequences() {
        Probe probe = new Probe("one picture").seq("2;3H").pack("abcdef").line(1, "  abcdef    ").cursor(1, 8);
        probe.seq("4D", "K").line(1, "  ab        ").cursor(1, 4);
        probe.seq("3G", "2@").line(1, "    ab      ").cursor(1, 2);
        probe.seq("P").line(1, "   ab       ").cursor(1, 2);
        probe.seq("2S").line(1, Probe.BLANK_LINE).cells(32, 0, 96).pack("c").seq("T").line(2, "  c         ");
        probe.seq("7;32;41m").pack("d").line(1, "   d        ").look(1, 3, 4 + 8 * 3 + 128 * 2);
        probe.seq("?47h").cells(32, 0, 96).pack("e").line(1, "    e       ").look(1, 4, 4 + 8 * 3 + 128 * 2);
        probe.seq("?47l").line(1, "   d        ").line(2, "  c         ").cells(32, 0, 94).cursor(1, 5);
    }
}
