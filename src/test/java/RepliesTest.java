/** Promises 16 and 17: waiting and reply. */
public final class RepliesTest {
    private static final String WELL = "\33[0n";

    public static void main(String[] args) {
        none();
        well();
        position();
        positionWithOrigin();
        inTurn();
        room();
        roomForPositions();
        Probe.finish();
    }

    private static void none() {
        new Probe("none").noReply().noReply().send("a").noReply();
        new Probe("other n").send(Probe.CSI + "n" + Probe.CSI + "0n" + Probe.CSI + "4n" + Probe.CSI + "7n" + Probe.CSI + "?5n"
            + Probe.CSI + "?6n" + Probe.CSI + ";5n" + Probe.CSI + "56n").noReply();
    }

    private static void well() {
        new Probe("5n").send("ab" + Probe.CSI + "5n").cursor(0, 2).state(0).replies(WELL);
        new Probe("5;6n").send(Probe.CSI + "5;6n").replies(WELL);
    }

    private static void position() {
        new Probe("6n").send(Probe.CSI + "6n").replies("\33[1;1R");
        new Probe("6n elsewhere").send(Probe.CSI + "4;7H" + Probe.CSI + "6n").replies("\33[4;7R");
        new Probe("6n in column 8").send(Probe.CSI + "2;9H" + Probe.CSI + "6n").replies("\33[2;9R");
        new Probe("6n in column 9").send(Probe.CSI + "2;10H" + Probe.CSI + "6n").replies("\33[2;10R");
        new Probe("6n at the end").send(Probe.CSI + "8;12H" + Probe.CSI + "6n").replies("\33[8;12R");
        new Probe("6n if full").send("abcdefghijkl" + Probe.CSI + "6n").replies("\33[1;12R").cursor(0, 11, true);
        new Probe("6n looks at no region").send(Probe.CSI + "3;5r" + Probe.CSI + "4;2H" + Probe.CSI + "6n").replies("\33[4;2R");
    }

    private static void positionWithOrigin() {
        Probe probe = new Probe("6n with ORIGIN").send(Probe.CSI + "3;5r" + Probe.CSI + "?6h" + Probe.CSI + "6n").replies("\33[1;1R");
        probe.send(Probe.CSI + "3;11H" + Probe.CSI + "6n").replies("\33[3;11R");
        probe.send(Probe.CSI + "2d" + Probe.CSI + "6n").cursor(1, 10).replies("\33[0;11R");
        probe.send(Probe.CSI + "d" + Probe.CSI + "6n").replies("\33[0;11R");
        probe.send(Probe.CSI + "3d" + Probe.CSI + "6n").replies("\33[1;11R");
        probe.send(Probe.CSI + "8d" + Probe.CSI + "6n").replies("\33[6;11R");
        Probe whole = new Probe("6n with ORIGIN, row 7").send(Probe.CSI + "?6h" + Probe.CSI + "8H" + Probe.CSI + "6n");
        whole.replies("\33[8;1R");
    }

    private static void inTurn() {
        Probe probe = new Probe("in turn").send(Probe.CSI + "5n" + "abc" + Probe.CSI + "6n");
        Probe.same("waiting", probe.desk.waiting(), 10);
        Probe.same("first", probe.desk.reply(), 27);
        Probe.same("waiting", probe.desk.waiting(), 9);
        Probe.same("second", probe.desk.reply(), '[');
        probe.send(Probe.CSI + "5n").replies("0n\33[1;4R" + WELL);
        probe.send(Probe.CSI + "6n").replies("\33[1;4R");
    }

    private static void room() {
        Probe probe = new Probe("room");
        for (int i = 0; i < 16; i++) {
            probe.pack(Probe.CSI + "5n");
        }
        Probe.same("waiting", probe.desk.waiting(), 64);
        probe.pack(Probe.CSI + "5n" + Probe.CSI + "6n");
        Probe.same("still waiting", probe.desk.waiting(), 64);
        for (int i = 0; i < 3; i++) {
            probe.desk.reply();
            probe.pack(Probe.CSI + "5n");
            Probe.same("no room yet", probe.desk.waiting(), 63 - i);
        }
        probe.desk.reply();
        probe.pack(Probe.CSI + "6n");
        Probe.same("no room for six", probe.desk.waiting(), 60);
        probe.pack(Probe.CSI + "5n");
        Probe.same("room for four", probe.desk.waiting(), 64);
        for (int i = 0; i < 5; i++) {
            probe.desk.reply();
        }
        probe.pack(Probe.CSI + "6n");
        Probe.same("room for five alone", probe.desk.waiting(), 59);
        probe.desk.reply();
        probe.pack(Probe.CSI + "6n");
        Probe.same("room for six", probe.desk.waiting(), 64);
        probe.replies("0n" + WELL.repeat(14) + "\33[1;1R");
    }

    private static void roomForPositions() {
        Probe six = new Probe("room for six").pack((Probe.CSI + "6n").repeat(9) + Probe.CSI + "5n");
        Probe.same("58", six.desk.waiting(), 58);
        six.pack("\t\t\t" + Probe.CSI + "6n");
        Probe.same("seven are lost whole", six.desk.waiting(), 58);
        six.pack("\r" + Probe.CSI + "6n" + Probe.CSI + "5n");
        six.replies("\33[1;1R".repeat(9) + WELL + "\33[1;1R");
        Probe seven = new Probe("room for seven").pack(Probe.CSI + "12G" + (Probe.CSI + "6n").repeat(9));
        Probe.same("63", seven.desk.waiting(), 63);
        seven.pack(Probe.CSI + "6n" + Probe.CSI + "5n");
        seven.replies("\33[1;12R".repeat(9));
        Probe exact = new Probe("seven that just fit").pack((Probe.CSI + "6n").repeat(6) + "\t\t\t" + (Probe.CSI + "6n").repeat(3));
        Probe.same("57", exact.desk.waiting(), 57);
        exact.pack(Probe.CSI + "6n");
        exact.replies("\33[1;1R".repeat(6) + "\33[1;12R".repeat(4));
    }
}
