/** Promise 8: the modes and the two pages. */
public final class ModesTest {
    public static void main(String[] args) {
        wrongModes();
        insert();
        origin();
        wrap();
        pages();
        severalNumbers();
        Probe.finish();
    }

    private static void wrongModes() {
        Probe probe = new Probe("mode").mode(0, 0).mode(1, 0).mode(2, 1).mode(3, 0);
        probe.mode(-1, -1).mode(4, -1).mode(47, -1).mode(Integer.MIN_VALUE, -1).mode(Integer.MAX_VALUE, -1);
    }

    private static void insert() {
        Probe probe = new Probe("INSERT").send("ab" + Probe.CSI + "4h").mode(0, 1).cursor(0, 2).send(Probe.CSI + "4h").mode(0, 1);
        probe.send(Probe.CSI + "4l").mode(0, 0).cursor(0, 2).mode(1, 0).mode(2, 1).mode(3, 0);
        new Probe("h without numbers").send(Probe.CSI + "h" + Probe.CSI + "0h" + Probe.CSI + "?h" + Probe.CSI + "?l").mode(0, 0)
            .mode(1, 0).mode(2, 1).mode(3, 0);
        new Probe("l without numbers").send(Probe.CSI + "4h" + Probe.CSI + "l" + Probe.CSI + "?4l").mode(0, 1);
    }

    private static void origin() {
        Probe probe = new Probe("ORIGIN").send(Probe.CSI + "3;5r" + "\nab" + Probe.CSI + "?6h").mode(1, 1).cursor(2, 0);
        probe.send("abc" + Probe.CSI + "?6h").cursor(2, 0).send("abc" + Probe.CSI + "?6l").mode(1, 0).cursor(0, 0);
        probe.send("abc" + Probe.CSI + "?6l").cursor(0, 0).mode(0, 0).mode(2, 1).mode(3, 0);
        new Probe("ORIGIN of the whole").send("\n\nab" + Probe.CSI + "?6h").cursor(0, 0).mode(1, 1);
    }

    private static void wrap() {
        Probe probe = new Probe("WRAP").send("ab" + Probe.CSI + "?7l").mode(2, 0).cursor(0, 2).send(Probe.CSI + "?7l").mode(2, 0);
        probe.send(Probe.CSI + "?7h").mode(2, 1).cursor(0, 2).mode(0, 0).mode(1, 0).mode(3, 0);
    }

    private static void pages() {
        Probe probe = new Probe("pages").send("abc" + Probe.CSI + "?47h").mode(3, 1).cells(32, 0, 96).cursor(0, 3);
        probe.send("x").line(0, "   x        ").send(Probe.CSI + "?47h").mode(3, 1).line(0, "   x        ");
        probe.send(Probe.CSI + "?47l").mode(3, 0).line(0, "abc         ").cursor(0, 4);
        probe.send("y" + Probe.CSI + "?47l").mode(3, 0).line(0, "abc y       ");
        probe.send(Probe.CSI + "?47h").cells(32, 0, 96).send(Probe.CSI + "2J" + "z" + Probe.CSI + "S" + Probe.CSI + "?47l");
        probe.line(0, "abc y       ").code(0, 5, 32).cursor(0, 6).mode(0, 0).mode(1, 0).mode(2, 1);
        Probe corners = new Probe("page 1 is blank anew").send(Probe.CSI + "?47h").fill().cells(32, 0, 0);
        corners.send(Probe.CSI + "?47l").cells(32, 0, 96).send(Probe.CSI + "?47h").cells(32, 0, 96);
        new Probe("47l at first").send("a" + Probe.CSI + "?47l").line(0, "a           ").mode(3, 0);
        Probe looks = new Probe("looks of pages").send(Probe.CSI + "7m" + "a" + Probe.CSI + "?47h").look(0, 0, 0).pen(4);
        looks.send("\rb").look(0, 0, 4).send(Probe.CSI + "?47l").code(0, 0, 'a').look(0, 0, 4);
        new Probe("full goes along").send("abcdefghijkl" + Probe.CSI + "?47h").cursor(0, 11, true).send("m").code(1, 0, 'm')
            .send(Probe.CSI + "?47l").line(1, Probe.BLANK_LINE);
    }

    private static void severalNumbers() {
        Probe probe = new Probe("several").send(Probe.CSI + "2;5r" + Probe.CSI + "?6;7;47l").mode(1, 0).mode(2, 0).mode(3, 0);
        probe.send(Probe.CSI + "?47;7;6h").mode(1, 1).mode(2, 1).mode(3, 1).cursor(1, 0);
        probe.send(Probe.CSI + "?1;99;7l").mode(1, 1).mode(2, 0).mode(3, 1);
        new Probe("4 among others").send(Probe.CSI + "1;;4;20h").mode(0, 1).send(Probe.CSI + "4;4;3l").mode(0, 0);
    }
}
