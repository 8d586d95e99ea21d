/** Terms: EACH BYTE and LETTERS. */
public final class LettersTest {
    private static final int WRONG = 65533;

    public static void main(String[] args) {
        Sentence.holds("EACH BYTE is taken by the state.", LettersTest::eachByteIsTakenByTheState);
        Sentence.holds("LETTERS, in GROUND: 32 .. 126 are printed.", LettersTest::lettersOfOneByte);
        Sentence.holds("194 .. 223 begin a letter of two bytes, 224 .. 239 one of three, 240 .. 244 one of four;",
            LettersTest::whatBeginsALetter);
        Sentence.holds("the lowest 5, 4 and 3 bits of it are the highest bits of the code, "
            + "each further byte, 128 .. 191, brings six more.", LettersTest::bitsOfLetters);
        Sentence.holds("After the last one the code is printed,", LettersTest::afterTheLastByte);
        Sentence.holds("but 65533 in its place if it is below 128, 2048, 65536 (for two, three, four bytes),",
            LettersTest::codesThatAreTooLow);
        Sentence.holds("or 55296 .. 57343,", LettersTest::codes55296To57343);
        Sentence.holds("or above 1114111.", LettersTest::codesAbove1114111);
        Sentence.holds("Comes any other byte while one of a letter is missing (24, 26, 27, 127 and controls, too), "
            + "65533 is printed, and then the byte is taken as if none were.", LettersTest::anyOtherByteWhileOneIsMissing);
        Sentence.holds("Comes any other byte while one of a letter is missing (24, 26, 27, 127 and controls, too), "
            + "65533 is printed, and then the byte is taken as if none were.", LettersTest::thenTheByteIsTaken);
        Sentence.holds("128 .. 193 and 245 .. 255 where no byte is missing: 65533 is printed.", LettersTest::strayBytes);
        Probe.finish();
    }

    private static void eachByteIsTakenByTheState() {
        new Probe("D in GROUND").pack("D").code(0, 0, 'D').cursor(0, 1);
        new Probe("D in ESCAPE").pack("ab").esc("D").cursor(1, 2).cells('D', 0, 0);
        new Probe("D in SEQUENCE").pack("ab").seq("D").cursor(0, 1).cells('D', 0, 0);
        new Probe("D in WASTE").pack("ab").esc("(D").cursor(0, 2).state(0).cells('D', 0, 0);
        new Probe("D in TITLE").pack("ab").esc("]D\7").cursor(0, 2).title("D").cells('D', 0, 0);
    }

    private static void lettersOfOneByte() {
        for (int b = 32; b < 127; b++) {
            new Probe("byte " + b).bytes(b).code(0, 0, b).cursor(0, 1).state(0).cells(32, 0, b == 32 ? 96 : 95);
        }
        new Probe("31 and 127 are not").bytes('a', 31, 127, 'b').line(0, "ab          ");
    }

    private static void whatBeginsALetter() {
        for (int b = 194; b < 245; b++) {
            int further = b < 224 ? 1 : b < 240 ? 2 : 3;
            Probe probe = new Probe("begun by " + b);
            probe.bytes(b);
            for (int i = 0; i < further; i++) {
                probe.cursor(0, 0).state(0).cells(32, 0, 96).bytes(143 + 16 * i);
            }
            probe.cursor(0, 1).state(0).cells(32, 0, 95).bytes('z').code(0, 1, 'z').cursor(0, 2);
        }
    }

    /** What a letter makes by plain arithmetic. */
    private static int due(int code, int least) {
        return code < least || code / 2048 == 27 || code > 1114111 ? WRONG : code;
    }

    private static void bitsOfLetters() {
        for (int code = 128; code < 2048; code++) {
            new Probe("two " + code).bytes(192 + code / 64, 128 + code % 64).code(0, 0, code).cursor(0, 1);
        }
        for (int code = 0; code < 65536; code += 7) {
            Probe probe = new Probe("three " + code).bytes(224 + code / 4096, 128 + code / 64 % 64, 128 + code % 64);
            probe.code(0, 0, due(code, 2048)).cursor(0, 1);
        }
        for (int code = 0; code < 5 * 262144; code += 101) {
            Probe probe = new Probe("four " + code);
            probe.bytes(240 + code / 262144, 128 + code / 4096 % 64, 128 + code / 64 % 64, 128 + code % 64);
            probe.code(0, 0, due(code, 65536)).cursor(0, 1);
        }
    }

    private static void afterTheLastByte() {
        new Probe("two").bytes(0xc3).cursor(0, 0).cells(32, 0, 96).bytes(0xa4).code(0, 0, 0xe4).cursor(0, 1);
        new Probe("three").bytes(0xe2, 0x82).cursor(0, 0).bytes(0xac).code(0, 0, 0x20ac).cursor(0, 1);
        new Probe("four").bytes(0xf0, 0x9f, 0x98).cursor(0, 0).bytes(0x80).code(0, 0, 0x1f600).cursor(0, 1);
        new Probe("one behind the other").bytes(0xc3, 0xa4, 0xe2, 0x82, 0xac, 0xc3, 0xb6).code(0, 0, 0xe4).code(0, 1, 0x20ac)
            .code(0, 2, 0xf6).cursor(0, 3);
        new Probe("if full").fillRow().bytes(0xc3).cursor(0, 11, true).bytes(0xa4).cursor(1, 1).code(1, 0, 0xe4);
        new Probe("by feedAll").pack("\360\237\230\200\303\244\142").code(0, 0, 0x1f600).code(0, 1, 0xe4).code(0, 2, 'b');
    }

    private static void codesThatAreTooLow() {
        new Probe("128 in two").bytes(0xc2, 0x80).code(0, 0, 128);
        new Probe("2047 in two").bytes(0xdf, 0xbf).code(0, 0, 2047);
        new Probe("0 in three").bytes(0xe0, 0x80, 0x80).code(0, 0, WRONG).cursor(0, 1);
        new Probe("127 in three").bytes(0xe0, 0x81, 0xbf).code(0, 0, WRONG).cursor(0, 1);
        new Probe("2047 in three").bytes(0xe0, 0x9f, 0xbf).code(0, 0, WRONG).cursor(0, 1);
        new Probe("2048 in three").bytes(0xe0, 0xa0, 0x80).code(0, 0, 2048).cursor(0, 1);
        new Probe("65535 in three").bytes(0xef, 0xbf, 0xbf).code(0, 0, 65535).cursor(0, 1);
        new Probe("2048 in four").bytes(0xf0, 0x80, 0xa0, 0x80).code(0, 0, WRONG).cursor(0, 1);
        new Probe("65535 in four").bytes(0xf0, 0x8f, 0xbf, 0xbf).code(0, 0, WRONG).cursor(0, 1);
        new Probe("65536 in four").bytes(0xf0, 0x90, 0x80, 0x80).code(0, 0, 65536).cursor(0, 1);
    }

    private static void codes55296To57343() {
        new Probe("55295").bytes(0xed, 0x9f, 0xbf).code(0, 0, 55295).cursor(0, 1);
        new Probe("57344").bytes(0xee, 0x80, 0x80).code(0, 0, 57344).cursor(0, 1);
        for (int code = 55296; code <= 57343; code++) {
            new Probe("code " + code).bytes(0xed, 128 + code / 64 % 64, 128 + code % 64).code(0, 0, WRONG).cursor(0, 1);
        }
    }

    private static void codesAbove1114111() {
        new Probe("1114111").bytes(0xf4, 0x8f, 0xbf, 0xbf).code(0, 0, 1114111).cursor(0, 1);
        new Probe("1114112").bytes(0xf4, 0x90, 0x80, 0x80).code(0, 0, WRONG).cursor(0, 1);
        new Probe("1310719").bytes(0xf4, 0xbf, 0xbf, 0xbf).code(0, 0, WRONG).cursor(0, 1);
    }

    private static void anyOtherByteWhileOneIsMissing() {
        int[][] begun = {{0xdf}, {0xe2}, {0xe2, 0x82}, {0xf0}, {0xf0, 0x9f}, {0xf0, 0x9f, 0x98}};
        for (int[] open : begun) {
            for (int b = 0; b < 256; b++) {
                if (b < 128 || b > 191) {
                    new Probe("missing, then " + b).bytes(open).bytes(b).code(0, 0, WRONG);
                }
            }
        }
    }

    private static void thenTheByteIsTaken() {
        new Probe("a letter").bytes(0xc3, 'a').code(0, 1, 'a').cursor(0, 2).bytes(0xa4).code(0, 2, WRONG);
        new Probe("the begin of another").bytes(0xe2, 0x82, 0xc3, 0xa4).code(0, 0, WRONG).code(0, 1, 0xe4).cursor(0, 2);
        new Probe("192").bytes(0xc3, 192).cells(WRONG, 0, 2).cursor(0, 2);
        new Probe("255").bytes(0xf0, 0x90, 0x80, 255).cells(WRONG, 0, 2).cursor(0, 2);
        new Probe("24").bytes(0xc3, 24).cells(WRONG, 0, 1).cursor(0, 1).state(0).bytes(0xa4).cells(WRONG, 0, 2);
        new Probe("26").bytes(0xc3, 26).cells(WRONG, 0, 1).cursor(0, 1).state(0).bytes(0xa4).cells(WRONG, 0, 2);
        new Probe("27").bytes(0xc3, 27).cells(WRONG, 0, 1).cursor(0, 1).state(1).bytes('D').cursor(1, 1);
        new Probe("127").bytes(0xc3, 127).cells(WRONG, 0, 1).cursor(0, 1).bytes(0xa4).cells(WRONG, 0, 2);
        new Probe("0").bytes(0xc3, 0).cells(WRONG, 0, 1).cursor(0, 1).bytes(0xa4).cells(WRONG, 0, 2);
        new Probe("7").bytes(0xe2, 0x82, 7).cells(WRONG, 0, 1).cursor(0, 1).bells(1);
        new Probe("8").bytes(0xc3, 8).code(0, 0, WRONG).cursor(0, 0);
        new Probe("9").bytes(0xc3, 9).code(0, 0, WRONG).cursor(0, 4);
        new Probe("10").bytes(0xc3, 10).code(0, 0, WRONG).cursor(1, 1);
        new Probe("13").bytes(0xc3, 13).code(0, 0, WRONG).cursor(0, 0);
        new Probe("31").bytes(0xc3, 31).code(0, 0, WRONG).cursor(0, 1);
        new Probe("in column 11").seq("12G").bytes(0xc3, 'a').code(0, 11, WRONG).code(1, 0, 'a').cursor(1, 1);
    }

    private static void strayBytes() {
        for (int b = 128; b < 256; b++) {
            boolean begins = b >= 194 && b <= 244;
            new Probe("stray " + b).bytes(b).cells(WRONG, 0, begins ? 0 : 1).cursor(0, begins ? 0 : 1).state(0);
        }
        new Probe("one too many").bytes(0xc3, 0xa4, 0xa4).code(0, 0, 0xe4).code(0, 1, WRONG).cursor(0, 2);
        new Probe("many").bytes(128, 191, 192, 193, 245, 255).cells(WRONG, 0, 6).cursor(0, 6);
    }
}
