/** How the numbers of a SEQUENCE come about, PRIVATE, and which last bytes do something. */
public final class NumbersTest {
    public static void main(String[] args) {
        everyByte();
        numbers();
        greatNumbers();
        onlySix();
        privateMark();
        freshNumbers();
        lastBytesThatDoNothing();
        Probe.finish();
    }

    private static void everyByte() {
        for (int b = 32; b < 127; b++) {
            boolean goesOn = b >= '0' && b <= '9' || b == ';' || b == '?';
            int state = b >= 64 ? 0 : goesOn ? 2 : 3;
            new Probe("[ " + (char) b).send(Probe.CSI).bytes(b).state(state);
            new Probe("[ 1 " + (char) b).send(Probe.CSI + "1").bytes(b).state(b == '?' ? 3 : state);
            new Probe("[ ; " + (char) b).send(Probe.CSI + ";").bytes(b).state(b == '?' ? 3 : state);
            new Probe("[ ? " + (char) b).send(Probe.CSI + "?").bytes(b).state(b == '?' ? 3 : state);
        }
    }

    private static void numbers() {
        new Probe("digits").send(Probe.CSI + "10G").cursor(0, 9);
        new Probe("leading zeros").send(Probe.CSI + "0000000007G").cursor(0, 6);
        new Probe("none").send("ab" + Probe.CSI + "G").cursor(0, 0);
        new Probe("first missing").send("\n\n" + Probe.CSI + ";5H").cursor(0, 4);
        new Probe("second missing").send(Probe.CSI + "5;H").cursor(4, 0).send(Probe.CSI + "3H").cursor(2, 0);
        new Probe("third is not looked at").send(Probe.CSI + "2;3;4H").cursor(1, 2);
        new Probe("both 0").send("\n\nab" + Probe.CSI + "0;0H").cursor(0, 0);
    }

    private static void greatNumbers() {
        new Probe("9999").send(Probe.CSI + "9999G").cursor(0, 11);
        new Probe("10000").send(Probe.CSI + "10000G").cursor(0, 11);
        new Probe("4294967297 is no 1").send(Probe.CSI + "4294967297G").cursor(0, 11);
        new Probe("4294967296 is no 0").send("ab" + Probe.CSI + "4294967296J").line(0, "ab          ");
        new Probe("2147483648").send(Probe.CSI + "2147483648;2147483650H").cursor(7, 11);
        new Probe("99999999999999999999").send(Probe.CSI + "99999999999999999999C").cursor(0, 11);
        new Probe("100000004 is no 4").send(Probe.CSI + "100000004h").mode(0, 0);
        new Probe("10006 is no 6").send(Probe.CSI + "10006n").noReply();
    }

    private static void onlySix() {
        new Probe("six").send(Probe.CSI + "1;4;7;31;41;22m").pen(2 + 4 + 16 + 256);
        new Probe("seven").send(Probe.CSI + "1;4;7;31;41;1;22m").pen(7 + 16 + 256);
        new Probe("seven, the last 0").send(Probe.CSI + "1;4;7;31;41;1;0m").pen(7 + 16 + 256);
        new Probe("seven, the last empty").send(Probe.CSI + "1;4;7;31;41;1;m").pen(7 + 16 + 256);
        new Probe("digits of the seventh").send(Probe.CSI + "1;1;1;1;1;2;2m").pen(1);
        new Probe("many semicolons").send(Probe.CSI + ";;;;;;;;;;1m").pen(0);
        new Probe("sixth").send(Probe.CSI + ";;;;;1m").pen(1);
        new Probe("h of seven").send(Probe.CSI + "1;1;1;1;1;1;4h").mode(0, 0).send(Probe.CSI + "1;1;1;1;1;4h").mode(0, 1);
        new Probe("private h of seven").send(Probe.CSI + "?1;1;1;1;1;1;6h").mode(1, 0).send(Probe.CSI + "?1;1;1;1;1;6h")
            .mode(1, 1);
        new Probe("seven with H").send(Probe.CSI + "2;3;4;5;6;7;8H").cursor(1, 2);
    }

    private static void privateMark() {
        new Probe("?").send(Probe.CSI + "?6h").mode(1, 1).mode(0, 0);
        new Probe("? behind a digit").send(Probe.CSI + "6?h").mode(1, 0).state(0);
        new Probe("? behind a semicolon").send(Probe.CSI + ";?6h").mode(1, 0).state(0);
        new Probe("??").send(Probe.CSI + "??6h").mode(1, 0).state(0);
        new Probe("? behind a control").send(Probe.CSI + "\7?6h").mode(1, 1).bells(1);
        new Probe("? behind 127 and 200").send(Probe.CSI).bytes(127, 200).send("?6h").mode(1, 1);
        new Probe("controls behind ?").send(Probe.CSI + "?\r6\7h").mode(1, 1);
        new Probe("?4h").send(Probe.CSI + "?4h").mode(0, 0);
        new Probe("6h and 7l").send(Probe.CSI + "6;7;47h").mode(1, 0).mode(3, 0).send(Probe.CSI + "7l").mode(2, 1);
    }

    private static void freshNumbers() {
        new Probe("numbers are forgotten").send(Probe.CSI + "5;5H" + Probe.CSI + "H").cursor(0, 0);
        new Probe("numbers of a broken one").send(Probe.CSI + "5;5" + Probe.CSI + "H").cursor(0, 0);
        new Probe("? of a broken one").send(Probe.CSI + "?" + Probe.CSI + "5G").cursor(0, 4);
        new Probe("? is forgotten").send(Probe.CSI + "?7l" + Probe.CSI + "4h").mode(0, 1);
        new Probe("how many are forgotten").send(Probe.CSI + "1;4m" + Probe.CSI + "7m").pen(7);
    }

    private static void lastBytesThatDoNothing() {
        String done = "ABCDEFGdHfJKX@PLMSTbmrsughln";
        for (int b = 64; b < 127; b++) {
            if (done.indexOf(b) < 0) {
                untouched("last " + (char) b, Probe.CSI + "2;3" + (char) b);
            }
            untouched("private " + (char) b, Probe.CSI + "?4;5" + (char) b);
            if (b != 'h' && b != 'l') {
                untouched("private 6, 7, 47 " + (char) b, Probe.CSI + "?6;7;47" + (char) b);
                untouched("private without numbers " + (char) b, Probe.CSI + "?" + (char) b);
            }
        }
    }

    private static void untouched(String what, String bytes) {
        Probe probe = new Probe(what).fill().pack(Probe.CSI + "3;5r" + Probe.CSI + "4;12H" + Probe.CSI + "1m" + "x");
        probe.pack(Probe.CSI + "4h" + bytes).cursor(3, 11, true).pen(1).region(2, 4).tabs("....T...T...").state(0);
        probe.firstColumn("abcdefgh").cells('x', 1, 1).cells(32, -1, 0).mode(0, 1).mode(1, 0).mode(2, 1).mode(3, 0);
        probe.noReply().bells(0).title("");
    }
}
