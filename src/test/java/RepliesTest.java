/** Terms: n and what it replies; promises 16 and 17. */
public final class RepliesTest {
    private static final String WELL = "\033[0n";

    public static void main(String[] args) {
        Sentence.holds("n: 5 replies 27, [, 0, n;", RepliesTest::five);
        Sentence.holds("n: 5 replies 27, [, 0, n;", RepliesTest::otherNumbersReplyNothing);
        Sentence.holds("6 replies 27, [, the row, ;, the column, R, the row and column counted from 1", RepliesTest::six);
        Sentence.holds("(with ORIGIN the row from top, but 0 if it is above top) in digits.", RepliesTest::sixWithOrigin);
        Sentence.holds("A reply comes behind those that wait", RepliesTest::behindThoseThatWait);
        Sentence.holds("if there are then no more than 64 bytes, else it is lost.", RepliesTest::repliesOfFourBytes);
        Sentence.holds("if there are then no more than 64 bytes, else it is lost.", RepliesTest::repliesOfSixAndSevenBytes);
        Sentence.holds("if there are then no more than 64 bytes, else it is lost.", RepliesTest::everyRoomThatIsLeft);
        Sentence.holds("`int waiting()`: How many bytes of replies wait.", RepliesTest::howManyWait);
        Sentence.holds("`int reply() throws java.util.NoSuchElementException`: The first of them, which waits no more.",
            RepliesTest::theFirstWaitsNoMore);
        Sentence.holds("Throws NoSuchElementException if none waits.", RepliesTest::noneWaits);
        Probe.finish();
    }

    private static void five() {
        new Probe("5n").seq("3;6H", "5n").cursor(2, 5).state(0).replies(WELL);
        new Probe("5n if full").fillRow().seq("5n").cursor(0, 11, true).replies(WELL);
        new Probe("5;6n").seq("5;6n").replies(WELL);
    }

    private static void otherNumbersReplyNothing() {
        for (int number = 0; number < 70; number++) {
            if (number != 5 && number != 6) {
                new Probe(number + "n").seq(number + "n").noReply();
            }
        }
        new Probe("others").seq("n", ";5n", "0;6n", "9999n", "?5n", "?6n", "?n").noReply();
    }

    private static void six() {
        for (int row = 1; row < 9; row++) {
            for (int column = 1; column < 13; column++) {
                Probe probe = new Probe("6n").seq("3;5r", row + ";" + column + "H", "6n").cursor(row - 1, column - 1);
                probe.replies("\033[" + row + ";" + column + "R");
            }
        }
        new Probe("6n if full").fillRow().seq("6n").cursor(0, 11, true).replies("\033[1;12R");
    }

    private static void sixWithOrigin() {
        for (Spot spot : Spot.all()) {
            int told = spot.row() < spot.top() ? 0 : spot.row() - spot.top() + 1;
            Probe probe = spot.blank("6n with ORIGIN", 0).seq("?6h", (spot.row() + 1) + "d", "11G", "6n");
            probe.cursor(spot.row(), 10).replies("\033[" + told + ";11R");
        }
    }

    private static void behindThoseThatWait() {
        Probe probe = new Probe("in turn").seq("5n").pack("abc").seq("6n").waiting(10);
        Probe.same("first", probe.desk.reply(), 27);
        Probe.same("second", probe.desk.reply(), '[');
        probe.seq("5n").replies("0n\033[1;4R" + WELL).seq("6n").replies("\033[1;4R");
    }

    private static void repliesOfFourBytes() {
        Probe probe = new Probe("sixteen times four").pack((Probe.CSI + "5n").repeat(16)).waiting(64);
        probe.seq("5n", "6n").waiting(64);
        for (int left = 63; left > 60; left--) {
            probe.desk.reply();
            probe.seq("5n").waiting(left);
        }
        probe.desk.reply();
        probe.seq("6n").waiting(60).seq("5n").waiting(64).replies(WELL.repeat(16));
    }

    private static void repliesOfSixAndSevenBytes() {
        Probe six = new Probe("room for six").pack((Probe.CSI + "6n").repeat(9) + Probe.CSI + "5n").waiting(58);
        six.seq("12G", "6n").waiting(58).seq("1G", "6n").waiting(64).seq("5n");
        six.replies("\033[1;1R".repeat(9) + WELL + "\033[1;1R");
        Probe seven = new Probe("63 wait").seq("12G").pack((Probe.CSI + "6n").repeat(9)).waiting(63);
        seven.seq("6n", "5n").replies("\033[1;12R".repeat(9));
        Probe exact = new Probe("room for seven").pack((Probe.CSI + "6n").repeat(6)).seq("12G", "6n", "6n", "6n").waiting(57);
        exact.seq("6n").replies("\033[1;1R".repeat(6) + "\033[1;12R".repeat(4));
    }

    /** From 64 bytes down: with how many of them waiting does each reply still come? */
    private static void everyRoomThatIsLeft() {
        for (int taken = 0; taken < 12; taken++) {
            for (String reply : new String[] {"0n", "1;1R", "1;12R"}) {
                Probe probe = new Probe(taken + " taken, then " + reply).pack((Probe.CSI + "5n").repeat(16));
                for (int i = 0; i < taken; i++) {
                    probe.desk.reply();
                }
                probe.seq(reply.equals("1;12R") ? "12G" : "1G", reply.equals("0n") ? "5n" : "6n");
                String bytes = "\033[" + reply;
                probe.replies(WELL.repeat(16).substring(taken) + (bytes.length() <= taken ? bytes : ""));
            }
        }
    }

    private static void howManyWait() {
        Probe probe = new Probe("waiting").waiting(0).seq("5n").waiting(4).seq("6n").waiting(10).seq("12G", "6n").waiting(17);
        for (int left = 16; left >= 0; left--) {
            probe.desk.reply();
            probe.waiting(left);
        }
        probe.noReply().waiting(0);
    }

    private static void theFirstWaitsNoMore() {
        Probe probe = new Probe("reply").seq("5n");
        Probe.same("1st", probe.desk.reply(), 27);
        Probe.same("2nd", probe.desk.reply(), '[');
        Probe.same("3rd", probe.desk.reply(), '0');
        Probe.same("4th", probe.desk.reply(), 'n');
        probe.noReply();
        Probe many = new Probe("more than 64 bytes in all");
        for (int i = 0; i < 30; i++) {
            many.seq((i % 8 + 1) + ";" + (i % 12 + 1) + "H", "6n").replies("\033[" + (i % 8 + 1) + ";" + (i % 12 + 1) + "R");
        }
        Probe filled = new Probe("never empty").pack((Probe.CSI + "5n").repeat(15));
        for (int i = 0; i < 50; i++) {
            filled.seq("5n").waiting(64);
            for (int b : new int[] {27, '[', '0', 'n'}) {
                Probe.same("round " + i, filled.desk.reply(), b);
            }
        }
    }

    private static void noneWaits() {
        new Probe("new").noReply().noReply().seq("5n").replies(WELL).noReply().noReply().pack("a").noReply();
        new Probe("a refused call changes nothing").noReply().atFirst();
    }
}
