/** Terms: SEQUENCE with its numbers and PRIVATE, WASTE, and which last bytes do nothing. */
public final class SequenceTest {
    private static final String LASTS = "ABCDEFGdHfJKX@PLMSTbmrsughln";

    public static void main(String[] args) {
        Sentence.holds("SEQUENCE: digits make a NUMBER (9999 if it would be greater);", SequenceTest::digitsMakeANumber);
        Sentence.holds("SEQUENCE: digits make a NUMBER (9999 if it would be greater);", SequenceTest::greaterNumbers);
        Sentence.holds("a semicolon ends it and begins the next one;", SequenceTest::aSemicolonBeginsTheNextOne);
        Sentence.holds("only the first six are kept.", SequenceTest::onlySixAreKept);
        Sentence.holds("A number without digits is 0, also one that is not there.", SequenceTest::aNumberWithoutDigits);
        Sentence.holds("A ? before any digit, semicolon or other ? makes it PRIVATE "
            + "(controls, 127 and 128 .. 255 between don't matter).", SequenceTest::whatMakesItPrivate);
        Sentence.holds("A ? before any digit, semicolon or other ? makes it PRIVATE "
            + "(controls, 127 and 128 .. 255 between don't matter).", SequenceTest::whatIsBetweenDoesNotMatter);
        Sentence.holds("Other bytes from 32 to 63 lead to WASTE.", SequenceTest::otherBytesLeadToWaste);
        Sentence.holds("64 .. 126 end it: it is done, and leads to GROUND.", SequenceTest::lastBytesLeadToGround);
        Sentence.holds("WASTE: 64 .. 126 lead to GROUND; others do nothing.", SequenceTest::waste);
        Sentence.holds("SEQUENCES by their last byte; p, q are the first two numbers;", SequenceTest::theFirstTwoNumbers);
        Sentence.holds("n is p, but 1 if p is 0.", SequenceTest::nIsOneIfPIsZero);
        Sentence.holds("All other last bytes, PRIVATE or not, do nothing.", SequenceTest::allOtherLastBytes);
        Sentence.holds("(A number was begun if the sequence has a digit or semicolon, and then one more by each semicolon.)",
            SequenceTest::whichNumbersWereBegun);
        Probe.finish();
    }

    private static void digitsMakeANumber() {
        for (int number = 1; number < 13; number++) {
            new Probe(number + "G").seq(number + "G").cursor(0, number - 1);
        }
        new Probe("leading zeros").seq("0000000007G").cursor(0, 6);
        for (int digit = 0; digit < 10; digit++) {
            int row = Math.min(7, Math.max(0, digit - 1));
            new Probe("digit " + digit).send("\033[" + digit).state(2).send("d").cursor(row, 0);
        }
    }

    private static void greaterNumbers() {
        String[] great = {"9998", "9999", "10000", "10001", "65537", "99999", "2147483648", "4294967296", "4294967297",
            "18446744073709551617", "99999999999999999999"};
        for (String number : great) {
            new Probe(number).seq(number + "G").cursor(0, 11).seq(number + ";" + number + "H").cursor(7, 11).seq(number + "D")
                .cursor(7, 0).seq(number + "A").cursor(0, 0).seq(number + "B").cursor(7, 0);
            new Probe(number + " is no 0").fill().seq(number + "J", number + "K", number + "g", number + "m").cells(32, -1, 0);
        }
        new Probe("10004 is no 4").seq("10004h", "100004h", "65540h", "4294967300h").mode(0, 0);
        new Probe("10006 is no 6").seq("10006n", "10005n", "65542n", "4294967302n").noReply();
        new Probe("10047 is no 47").seq("?10047h", "?10006h", "?65543l", "?4294967303l").mode(3, 0).mode(1, 0).mode(2, 1);
        new Probe("digits behind a greater one").seq("99991G").cursor(0, 11).seq("1000000000000000000001G").cursor(0, 11);
        new Probe("the next one is not greater").seq("99999;3H").cursor(7, 2);
    }

    private static void aSemicolonBeginsTheNextOne() {
        new Probe("two").seq("3;4H").cursor(2, 3).send("\033[3;").state(2);
        new Probe("six").seq("1;4;7;31;41;22m").pen(2 + 4 + 16 + 256);
        new Probe("the first one is ended").seq("2;3r").region(1, 2);
    }

    private static void onlySixAreKept() {
        new Probe("the sixth").seq(";;;;;1m").pen(1).seq("0;0;0;0;0;4m").pen(2);
        new Probe("the seventh").seq("1;4;7;31;41;1;22m").pen(7 + 16 + 256);
        new Probe("the seventh is 0").seq("1;4;7;31;41;1;0m").pen(7 + 16 + 256);
        new Probe("the seventh has no digits").seq("1;4;7;31;41;1;m").pen(7 + 16 + 256);
        new Probe("digits of the seventh are not the sixth's").seq("1;1;1;1;1;2;2m").pen(1);
        new Probe("digits of the seventh are not the first's").seq("4;1;1;1;1;1;0m").pen(3);
        new Probe("many").seq(";;;;;;;;;;1m").pen(0).seq("1;;;;;;;;;;;;;;;;;;;;;;;;;;;;;;;;;;;;;;;;4m").pen(0);
        new Probe("h of seven").seq("1;1;1;1;1;1;4h").mode(0, 0).seq("1;1;1;1;1;4h").mode(0, 1);
        new Probe("PRIVATE h of seven").seq("?1;1;1;1;1;1;6h").mode(1, 0).seq("?1;1;1;1;1;6h").mode(1, 1);
        new Probe("PRIVATE l of seven").seq("?1;1;1;1;1;1;7l").mode(2, 1).seq("?1;1;1;1;1;7l").mode(2, 0);
        new Probe("H of seven").seq("2;3;4;5;6;7;8H").cursor(1, 2);
    }

    private static void aNumberWithoutDigits() {
        new Probe("none at all").pack("ab").seq("G").cursor(0, 0);
        new Probe("the first").pack("\n\n").seq(";5H").cursor(0, 4);
        new Probe("the second").seq("5;H").cursor(4, 0).seq("3H").cursor(2, 0);
        new Probe("both").seq("4;4H", ";H").cursor(0, 0);
        new Probe("one among others").seq("1;;4m").pen(2).seq("7;4;;m").pen(0);
        new Probe("J").fill().seq("8;12H", "J").cells(32, 0, 1).seq(";J").cells(32, 0, 1);
        new Probe("g").seq("5G", "g").tabs("........T...").seq("9G", ";3g").tabs("............");
    }

    private static void whatMakesItPrivate() {
        new Probe("?").send("\033[?").state(2).send("6h").mode(1, 1).mode(0, 0).state(0);
        new Probe("? behind a digit").send("\033[6?").state(3).send("h").mode(1, 0).mode(0, 0).state(0);
        new Probe("? behind a semicolon").send("\033[;?").state(3).send("6h").mode(1, 0).state(0);
        new Probe("? behind a ?").send("\033[??").state(3).send("6h").mode(1, 0).state(0);
        new Probe("? behind PRIVATE numbers").send("\033[?6?").state(3).send("h").mode(1, 0).state(0);
        new Probe("PRIVATE 4").seq("?4h").mode(0, 0).seq("4h", "?4l").mode(0, 1);
        new Probe("6, 7 and 47 not PRIVATE").seq("6;7;47h").mode(1, 0).mode(3, 0).seq("7l").mode(2, 1);
    }

    private static void whatIsBetweenDoesNotMatter() {
        for (int b = 0; b < 256; b++) {
            boolean matters = b == 24 || b == 26 || b == 27 || b >= 32 && b < 127;
            if (!matters) {
                new Probe(b + " before ?").send("\033[").bytes(b).send("?6h").mode(1, 1).state(0);
                new Probe(b + " behind ?").send("\033[?").bytes(b).send("6").bytes(b).send("h").mode(1, 1).state(0);
                new Probe(b + " between two ?").send("\033[?").bytes(b).send("?").state(3).send("6h").mode(1, 0);
                new Probe(b + " within a number").send("\033[?4").bytes(b).send("7h").mode(3, 1);
            }
        }
    }

    private static void otherBytesLeadToWaste() {
        for (int b = 32; b < 64; b++) {
            boolean goesOn = b >= '0' && b <= '9' || b == ';';
            new Probe("[ " + b).send("\033[").bytes(b).state(goesOn || b == '?' ? 2 : 3).cells(32, 0, 96);
            new Probe("[1 " + b).send("\033[1").bytes(b).state(goesOn ? 2 : 3);
            new Probe("[; " + b).send("\033[;").bytes(b).state(goesOn ? 2 : 3);
            new Probe("[? " + b).send("\033[?").bytes(b).state(goesOn ? 2 : 3);
        }
        new Probe("it is not done then").pack("ab").seq("3 H").cursor(0, 2).state(0).seq("1:2m", "<4h").pen(0).mode(0, 0);
        new Probe("digits do not lead back").send("\033[ 3").state(3).send(";").state(3).send("?").state(3).send("H").state(0);
    }

    private static void lastBytesLeadToGround() {
        for (int b = 64; b < 127; b++) {
            new Probe("[ " + b).send("\033[").bytes(b).state(0).cells(b, 0, 0);
            new Probe("[1;2 " + b).send("\033[1;2").bytes(b).state(0).cells(b, 0, 0);
            new Probe("[? " + b).send("\033[?").bytes(b).state(0).cells(b, 0, 0);
            new Probe("[?6 " + b).send("\033[?6").bytes(b).state(0).cells(b, 0, 0);
        }
        new Probe("it is done").seq("3;4H").cursor(2, 3).state(0).pack("x").code(2, 3, 'x');
    }

    private static void waste() {
        for (int b = 32; b < 127; b++) {
            new Probe("WASTE " + b).fillRow().send("\033(").bytes(b).state(b < 64 ? 3 : 0).cursor(0, 11, true).cells(32, 0, 84);
        }
        new Probe("it goes on").send("\033#0123;?~").state(0).send("x").line(0, "x           ");
        new Probe("[ and ] end it").send("\033 [a").line(0, "a           ").send("\033 ]b").line(0, "ab          ");
        new Probe("a last byte does nothing there").pack("ab").send("\033(H").tabs("....T...T...").send("\033(c\033(D")
            .cursor(0, 2).line(0, "ab          ").state(0);
    }

    private static void theFirstTwoNumbers() {
        new Probe("H").seq("3;5;7;2H").cursor(2, 4);
        new Probe("r").seq("3;5;7;2r").region(2, 4);
        new Probe("G looks at the first").seq("2;9G").cursor(0, 1);
        new Probe("J looks at the first").fill().seq("4;5H", "1;2J").cells(32, 0, 41);
        new Probe("n looks at the first").seq("5;6n").replies("\033[0n").seq("0;5n", ";6n").noReply();
        new Probe("g looks at the first").seq("3;0g").tabs("............");
    }

    private static void nIsOneIfPIsZero() {
        for (String p : new String[] {"", "0", "00", "1", ";", ";7", "0;9"}) {
            new Probe(p + "A").seq("4;4H", p + "A").cursor(2, 3).seq(p + "B").cursor(3, 3).seq(p + "C").cursor(3, 4)
                .seq(p + "D").cursor(3, 3).seq(p + "E").cursor(4, 0).seq("4G", p + "F").cursor(3, 0).seq("4G", p + "G")
                .cursor(3, 0).seq(p + "d").cursor(0, 0);
            new Probe(p + "X").fillRow().seq("4G", p + "X").line(0, "abc efghijkl").seq(p + "@").line(0, "abc  efghijk")
                .seq(p + "P").line(0, "abc efghijk ");
            new Probe(p + "L").fill().seq("4H", p + "L").firstColumn("abc defg").seq(p + "M").firstColumn("abcdefg ")
                .seq(p + "S").firstColumn("bcdefg  ").seq(p + "T").firstColumn(" bcdefg ");
            new Probe(p + "b").pack("a").seq(p + "b").line(0, "aa          ");
        }
        new Probe("r").seq("2;5r", "0;3r").region(0, 2).seq("2;5r", ";3r").region(0, 2);
        new Probe("H and f").seq("4;4H", "0;2H").cursor(0, 1).seq("4;4H", ";2f").cursor(0, 1);
    }

    private static void allOtherLastBytes() {
        for (int b = 64; b < 127; b++) {
            if (LASTS.indexOf(b) < 0) {
                untouched("2;3" + (char) b);
                untouched(String.valueOf((char) b));
            }
            untouched("?4;5" + (char) b);
            untouched("?" + (char) b);
            if (b != 'h' && b != 'l') {
                untouched("?1" + (char) b);
                untouched("?2;3" + (char) b);
                untouched("?6;7;47" + (char) b);
            }
        }
    }

    private static void untouched(String sequence) {
        Probe probe = new Probe(sequence).fill().seq("3;5r", "4;12H", "1m").pack("x").seq("4h", sequence);
        probe.cursor(3, 11, true).pen(1).region(2, 4).tabs("....T...T...").state(0);
        probe.firstColumn(Probe.ALL_ROWS).cells('x', 1, 1).cells(32, -1, 0).mode(0, 1).mode(1, 0).mode(2, 1).mode(3, 0);
        probe.noReply().bells(0).title("").seq("u").cursor(0, 0).pen(0);
    }

    private static void whichNumbersWereBegun() {
        new Probe("none").seq("1m", "m").pen(0).seq("4h", "l").mode(0, 1).seq("?h", "?l").mode(1, 0).mode(2, 1).mode(3, 0);
        new Probe("a digit begins one").seq("1m", "4m").pen(3).seq("0m").pen(0);
        new Probe("a semicolon begins two").seq(";1m").pen(1).seq(";m").pen(0).seq(";4h").mode(0, 1).seq("4;l").mode(0, 0);
        new Probe("a last one without digits").seq("1m", "4;m").pen(0).seq("1;4;;7m").pen(4);
        new Probe("PRIVATE ones").seq("?;7l").mode(2, 0).seq("?7;h").mode(2, 1).seq("?;;;;47h").mode(3, 1);
        new Probe("digits begin one only once").seq("1m", "22;4m").pen(2).seq("0000000m").pen(0);
    }
}
