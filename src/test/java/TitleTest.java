/** Promise 18: the title. */
public final class TitleTest {
    private static final String TITLE = "\33]";

    public static void main(String[] args) {
        titles();
        sixteen();
        whatDoesNotCount();
        broken();
        Probe.finish();
    }

    private static void titles() {
        Probe probe = new Probe("title").title("").send(TITLE + "0;a ~").state(4).title("").send("\7").state(0).title("0;a ~");
        probe.bells(0).cells(32, 0, 96).cursor(0, 0);
        probe.send(TITLE + "b\7").title("b").send(TITLE + "\7").title("").send("\7").bells(1);
        int[] none = {-1, 1, 15, 16, 17, Integer.MIN_VALUE, Integer.MAX_VALUE};
        probe.send(TITLE + "c\7");
        for (int i : none) {
            Probe.same("title(" + i + ")", probe.desk.title(i), -1);
        }
        Probe.same("title(0)", probe.desk.title(0), 'c');
    }

    private static void sixteen() {
        new Probe("15").send(TITLE + "abcdefghijklmno\7").title("abcdefghijklmno");
        new Probe("16").send(TITLE + "abcdefghijklmnop\7").title("abcdefghijklmnop");
        new Probe("17").send(TITLE + "abcdefghijklmnopq").state(4).send("r\7").title("abcdefghijklmnop").state(0);
        new Probe("shorter behind longer").send(TITLE + "abcdefghijklmnop\7" + TITLE + "xy\7").title("xy");
    }

    private static void whatDoesNotCount() {
        Probe probe = new Probe("others").send(TITLE + "a").bytes(0, 8, 10, 13, 31, 127, 128, 195, 255).send("b").state(4);
        probe.send("\7").title("ab").cursor(0, 0);
        new Probe("[ and ] are collected").send(TITLE + "[]H\7").title("[]H");
    }

    private static void broken() {
        Probe probe = new Probe("broken").send(TITLE + "old\7");
        probe.send(TITLE + "new").bytes(24).title("old").send("\7").title("old").bells(1).state(0);
        probe.send(TITLE + "new").bytes(26).title("old").state(0);
        probe.send(TITLE + "new").bytes(27).title("old").state(1).send("]x\7").title("x");
        probe.send(TITLE + "gone" + Probe.CSI + "H").title("x").state(0);
        probe.send(TITLE + "gone" + TITLE + "\7").title("");
    }
}
