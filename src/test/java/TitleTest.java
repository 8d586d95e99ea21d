/** Terms: TITLE; promise 18. */
public final class TitleTest {
    public static void main(String[] args) {
        Sentence.holds("TITLE: 32 .. 126 are collected,", TitleTest::whatIsCollected);
        Sentence.holds("the first 16;", TitleTest::theFirstSixteen);
        Sentence.holds("7 ends it, the title becomes what was collected, and it leads to GROUND;", TitleTest::sevenEndsIt);
        Sentence.holds("7 ends it, the title becomes what was collected, and it leads to GROUND;", TitleTest::nothingElseEndsIt);
        Sentence.holds("and it leads to GROUND; others do nothing.", TitleTest::othersDoNothing);
        Sentence.holds("`int title(int i)`: The i-th character of the title, counted from 0; -1 if there is none.",
            TitleTest::theCharacters);
        Probe.finish();
    }

    private static void whatIsCollected() {
        for (int b = 32; b < 127; b++) {
            new Probe("collected " + b).send("\033]").bytes(b).state(4).title("").send("\7").title(String.valueOf((char) b))
                .cells(32, 0, 96).cursor(0, 0);
        }
        new Probe("a text").esc("]0;a ~\7").title("0;a ~").esc("][]H\7").title("[]H");
    }

    private static void theFirstSixteen() {
        String letters = "abcdefghijklmnopqrstuvwxyz";
        for (int length = 0; length <= 26; length++) {
            Probe probe = new Probe("title of " + length).esc("]" + letters.substring(0, length)).state(4).pack("\7").state(0);
            probe.title(letters.substring(0, Math.min(length, 16)));
        }
        new Probe("a shorter one").esc("]abcdefghijklmnopq\7").esc("]xy\7").title("xy");
        new Probe("a longer one").esc("]xy\7").esc("]abcdefghijklmnopq\7").title("abcdefghijklmnop");
    }

    private static void sevenEndsIt() {
        Probe probe = new Probe("7").esc("]one").title("").state(4).pack("\7").title("one").state(0).bells(0);
        probe.pack("x").line(0, "x           ").pack("\7").bells(1).title("one");
        probe.esc("]two").title("one").pack("\7").title("two").esc("]\7").title("").state(0).bells(1);
    }

    private static void nothingElseEndsIt() {
        Probe probe = new Probe("broken").esc("]old\7");
        probe.esc("]new").bytes(24).title("old").state(0).pack("\7").title("old").bells(1);
        probe.esc("]new").bytes(26).title("old").state(0).pack("\7").title("old").bells(2);
        probe.esc("]new").bytes(27).title("old").state(1).pack("\7").title("old").bells(3).state(1).pack("]x\7").title("x");
        probe.esc("]gone").seq("H").title("x").state(0);
        probe.esc("]gone").esc("\\").title("x").state(0);
    }

    private static void othersDoNothing() {
        for (int b = 0; b < 256; b++) {
            boolean other = b < 32 ? b != 7 && b != 24 && b != 26 && b != 27 : b > 126;
            if (other) {
                Probe probe = new Probe("other " + b).pack("xyz").esc("]a").bytes(b).state(4).pack("b\7").title("ab");
                probe.cursor(0, 3).bells(0).cells(32, 0, 93);
            }
        }
        Probe last = new Probe("others behind sixteen").esc("]abcdefghijklmnop").bytes(8, 13, 127, 255).pack("q\7");
        last.title("abcdefghijklmnop");
    }

    private static void theCharacters() {
        Probe probe = new Probe("title").title("").esc("]abc\7").title("abc");
        int[] none = {-1, 3, 15, 16, 17, Integer.MIN_VALUE, Integer.MAX_VALUE};
        for (int i : none) {
            Probe.same("title(" + i + ")", probe.desk.title(i), -1);
        }
        probe.esc("]abcdefghijklmnop\7");
        Probe.same("title(0)", probe.desk.title(0), 'a');
        Probe.same("title(15)", probe.desk.title(15), 'p');
        Probe.same("title(16)", probe.desk.title(16), -1);
        Probe.same("title(-16)", probe.desk.title(-16), -1);
        probe.esc("]\7");
        Probe.same("title(0) of an empty one", probe.desk.title(0), -1);
    }
}
