/** Letters of one to four bytes, and printing. */
public final class LettersTest {
    private static final int WRONG = 65533;

    public static void main(String[] args) {
        letters();
        edgesOfLength();
        wrongLetters();
        strayBytes();
        cutLetters();
        everyByteBehindAnOpenLetter();
        wrapping();
        insert();
        repeat();
        Probe.finish();
    }

    private static void letters() {
        new Probe("32 and 126").bytes(32, 126).code(0, 0, 32).code(0, 1, 126).cursor(0, 2);
        new Probe("127").bytes('a', 127, 'b').line(0, "ab          ");
        new Probe("two").bytes(0xc3, 0xa4).code(0, 0, 0xe4).cursor(0, 1);
        new Probe("three").bytes(0xe2, 0x82, 0xac).code(0, 0, 0x20ac);
        new Probe("four").bytes(0xf0, 0x9f, 0x98, 0x80).code(0, 0, 0x1f600);
        new Probe("state within").bytes(0xf0).state(0).bytes(0x9f).state(0).cursor(0, 0);
    }

    private static void edgesOfLength() {
        new Probe("80").bytes(0xc2, 0x80).code(0, 0, 0x80);
        new Probe("7ff").bytes(0xdf, 0xbf).code(0, 0, 0x7ff);
        new Probe("800").bytes(0xe0, 0xa0, 0x80).code(0, 0, 0x800);
        new Probe("d7ff").bytes(0xed, 0x9f, 0xbf).code(0, 0, 0xd7ff);
        new Probe("e000").bytes(0xee, 0x80, 0x80).code(0, 0, 0xe000);
        new Probe("ffff").bytes(0xef, 0xbf, 0xbf).code(0, 0, 0xffff);
        new Probe("10000").bytes(0xf0, 0x90, 0x80, 0x80).code(0, 0, 0x10000);
        new Probe("40000").bytes(0xf1, 0x80, 0x80, 0x80).code(0, 0, 0x40000);
        new Probe("fffff").bytes(0xf3, 0xbf, 0xbf, 0xbf).code(0, 0, 0xfffff);
        new Probe("10ffff").bytes(0xf4, 0x8f, 0xbf, 0xbf).code(0, 0, 0x10ffff);
    }

    private static void wrongLetters() {
        new Probe("7ff in three").bytes(0xe0, 0x9f, 0xbf).code(0, 0, WRONG).cursor(0, 1);
        new Probe("0 in three").bytes(0xe0, 0x80, 0x80).code(0, 0, WRONG).cursor(0, 1);
        new Probe("ffff in four").bytes(0xf0, 0x8f, 0xbf, 0xbf).code(0, 0, WRONG).cursor(0, 1);
        new Probe("d800").bytes(0xed, 0xa0, 0x80).code(0, 0, WRONG).cursor(0, 1);
        new Probe("dfff").bytes(0xed, 0xbf, 0xbf).code(0, 0, WRONG).cursor(0, 1);
        new Probe("110000").bytes(0xf4, 0x90, 0x80, 0x80).code(0, 0, WRONG).cursor(0, 1);
        new Probe("13ffff").bytes(0xf4, 0xbf, 0xbf, 0xbf).code(0, 0, WRONG).cursor(0, 1);
    }

    private static void strayBytes() {
        for (int b = 128; b < 256; b++) {
            boolean begins = b >= 194 && b <= 244;
            new Probe("stray " + b).bytes(b).cells(WRONG, 0, begins ? 0 : 1).cursor(0, begins ? 0 : 1);
            new Probe("stray " + b + " and a").bytes(b, 'a').code(0, 0, WRONG).code(0, 1, 'a').cursor(0, 2);
        }
        new Probe("one too many").bytes(0xc3, 0xa4, 0xa4).code(0, 0, 0xe4).code(0, 1, WRONG).cursor(0, 2);
    }

    private static void cutLetters() {
        new Probe("letter begins anew").bytes(0xe2, 0x82, 0xc3, 0xa4).code(0, 0, WRONG).code(0, 1, 0xe4).cursor(0, 2);
        new Probe("192 behind").bytes(0xc3, 192).cells(WRONG, 0, 2).cursor(0, 2);
        new Probe("255 behind").bytes(0xf0, 0x90, 0x80, 255).cells(WRONG, 0, 2).cursor(0, 2);
        new Probe("24 behind").bytes(0xc3, 24).code(0, 0, WRONG).cursor(0, 1).state(0);
        new Probe("26 behind").bytes(0xc3, 26).code(0, 0, WRONG).cursor(0, 1).state(0);
        new Probe("27 behind").bytes(0xc3, 27).code(0, 0, WRONG).cursor(0, 1).state(1);
        new Probe("127 behind").bytes(0xc3, 127, 0xa4).cells(WRONG, 0, 2).cursor(0, 2);
        new Probe("0 behind").bytes(0xc3, 0).code(0, 0, WRONG).cursor(0, 1);
        new Probe("13 behind").bytes(0xc3, 13).code(0, 0, WRONG).cursor(0, 0);
        new Probe("7 behind").bytes(0xe2, 0x82, 7).code(0, 0, WRONG).cursor(0, 1).bells(1);
        new Probe("sequence behind").bytes(0xc3, 27, '[', 'b').cells(WRONG, 0, 2);
    }

    private static void everyByteBehindAnOpenLetter() {
        for (int b = 0; b < 256; b++) {
            boolean further = b >= 128 && b <= 191;
            new Probe("open letter, " + b).bytes(0xdf, b).code(0, 0, further ? 0x7c0 + (b & 63) : WRONG);
        }
    }

    private static void wrapping() {
        Probe probe = new Probe("wrap").send("abcdefghijk").cursor(0, 11, false).send("l").cursor(0, 11, true);
        probe.line(0, "abcdefghijkl").send("m").cursor(1, 1).line(1, "m           ");
        Probe off = new Probe("no wrap").send(Probe.CSI + "?7l" + "abcdefghijklmn").cursor(0, 11, false);
        off.line(0, "abcdefghijkn").line(1, Probe.BLANK_LINE);
        off.send(Probe.CSI + "?7h").cursor(0, 11, false).send("o").cursor(0, 11, true).line(0, "abcdefghijko");
        Probe stays = new Probe("wrap off while full").send("abcdefghijkl" + Probe.CSI + "?7l").cursor(0, 11, true);
        stays.send("m").cursor(1, 1).code(1, 0, 'm');
        Probe last = new Probe("wrap in row 7").fill().pack(Probe.CSI + "8;12H" + "x").cursor(7, 11, true);
        last.send("y").cursor(7, 1).firstColumn("bcdefghy").line(6, "hhhhhhhhhhhx").line(7, "y           ");
        Probe below = new Probe("wrap in row 7 below the region").fill().pack(Probe.CSI + "2;4r");
        below.pack(Probe.CSI + "8;12H" + "xy").cursor(7, 1).firstColumn("abcdefgy").line(7, "yhhhhhhhhhhx");
        new Probe("column 11 is printed on").send(Probe.CSI + "12G").cursor(0, 11).send("x").cursor(0, 11, true);
    }

    private static void insert() {
        Probe probe = new Probe("insert").send("abcdefghijkl" + Probe.CSI + "4h" + Probe.CSI + "3G" + "XY");
        probe.line(0, "abXYcdefghij").cursor(0, 4).mode(0, 1);
        probe.send(Probe.CSI + "12G" + "Z").line(0, "abXYcdefghiZ").cursor(0, 11, true);
        probe.send("Q").line(0, "abXYcdefghiZ").line(1, "Q           ");
        probe.send(Probe.CSI + "4l" + Probe.CSI + "H" + "1").line(0, "1bXYcdefghij".replace("hij", "hiZ")).mode(0, 0);
        Probe looks = new Probe("insert moves looks").send(Probe.CSI + "1m" + "a" + Probe.CSI + "4m" + "b");
        looks.send(Probe.CSI + "0;7m" + Probe.CSI + "4h" + "\r" + "c");
        looks.look(0, 0, 4).look(0, 1, 1).look(0, 2, 3).line(0, "cab         ");
        new Probe("insert behind a full row").send("abcdefghijkl" + Probe.CSI + "4h" + "m").line(0, "abcdefghijkl")
            .line(1, "m           ").cursor(1, 1);
    }

    private static void repeat() {
        new Probe("b").send("a" + Probe.CSI + "b").line(0, "aa          ");
        new Probe("3b").send("xa" + Probe.CSI + "3b").line(0, "xaaaa       ").cursor(0, 5);
        new Probe("0b").send("a" + Probe.CSI + "0b").line(0, "aa          ");
        new Probe("24b").send("a" + Probe.CSI + "24b").cells('a', 0, 25).cursor(2, 1);
        new Probe("25b").send("a" + Probe.CSI + "25b").cells('a', 0, 25).cursor(2, 1);
        new Probe("9999b").send("a" + Probe.CSI + "9999b").cells('a', 0, 25).cursor(2, 1);
        new Probe("b of a long letter").bytes(0xe2, 0x82, 0xac).send(Probe.CSI + "2b").cells(0x20ac, 0, 3);
        new Probe("b of a wrong letter").bytes('a', 200, 'a', 255).send(Probe.CSI + "b").cells(WRONG, 0, 3);
        new Probe("b with another pen").send("a" + Probe.CSI + "1m" + Probe.CSI + "2b").cells('a', 1, 2);
        new Probe("b behind a move").send("a" + Probe.CSI + "3;3H" + Probe.CSI + "b").code(2, 2, 'a').cursor(2, 3);
        new Probe("b of b").send("a" + Probe.CSI + "2b" + Probe.CSI + "2b").cells('a', 0, 5);
        new Probe("b behind a clearing").send("a" + Probe.CSI + "2J" + Probe.CSI + "b").line(0, " a          ");
        new Probe("b with insert").send("yx\r" + Probe.CSI + "4h" + Probe.CSI + "2b").line(0, "xxyx        ");
    }
}
