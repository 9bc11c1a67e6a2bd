import java.util.Arrays;

/** Promise 6: read. */
public final class ReadTest {
    private static final int BAD = 65533;
    private static final int[] WINDOWS = {
        8364, BAD, 8218, 402, 8222, 8230, 8224, 8225, 710, 8240, 352, 8249, 338, BAD, 381, BAD,
        BAD, 8216, 8217, 8220, 8221, 8226, 8211, 8212, 732, 8482, 353, 8250, 339, BAD, 382, 376
    };

    public static void main(String[] args) {
        wrongCharsets();
        readMovesTheTape();
        singleBytes();
        utf8();
        utf16();
        utf7();
        Checks.finish();
    }

    private static int[] row(int... values) {
        return values;
    }

    private static void due(int charset, int[] tape, int... want) {
        MailCharacters x = Checks.withTape(tape);
        String what = "read(" + charset + ") of " + Arrays.toString(tape);
        Checks.due(what + ", how many", x.read(charset), want.length);
        Checks.dueRow(what, Checks.text(x), want);
        Checks.due(what + ", tape", x.count(0), 0);
        Checks.due(what + ", BAD ones", x.count(2), Arrays.stream(want).filter(c -> c == BAD).count());
    }

    private static void due(int charset, String tape, int... want) {
        due(charset, Checks.bytesOf(tape), want);
    }

    private static void due(int charset, String tape, String want) {
        due(charset, Checks.bytesOf(tape), want.codePoints().toArray());
    }

    private static void wrongCharsets() {
        int[] wrong = {-1, 10, 11, Integer.MIN_VALUE, Integer.MAX_VALUE};
        for (int charset : wrong) {
            MailCharacters x = Checks.withText("abc");
            Checks.add(x, "tape");
            Checks.dueThrow("read(" + charset + ")", IllegalArgumentException.class, () -> x.read(charset));
            Checks.due("the tape stays", Checks.tapeString(x), "tape");
            Checks.due("the text stays", Checks.textString(x), "abc");
        }
    }

    private static void readMovesTheTape() {
        MailCharacters x = Checks.withTape("abcdef");
        Checks.due("read", x.read(0), 6);
        Checks.add(x, "xy");
        Checks.due("the text is the new one alone", x.read(0), 2);
        Checks.due("its characters", Checks.textString(x), "xy");
        Checks.due("read of no tape", x.read(4), 0);
        Checks.due("no text then", x.count(1), 0);
    }

    private static void singleBytes() {
        for (int b = 0; b < 256; b++) {
            due(0, row(b), b < 128 ? b : BAD);
            due(1, row(b), b);
            due(2, row(b), latin9(b));
            due(3, row(b), b >= 128 && b < 160 ? WINDOWS[b - 128] : b);
            due(8, row(b), koi(b));
        }
        due(0, row(65, 200, 66), 65, BAD, 66);
    }

    private static int latin9(int b) {
        switch (b) {
            case 164: return 8364;
            case 166: return 352;
            case 168: return 353;
            case 180: return 381;
            case 184: return 382;
            case 188: return 338;
            case 189: return 339;
            case 190: return 376;
            default: return b;
        }
    }

    private static int koi(int b) {
        String letters = "юабцдефгхийклмнопярстужвьызшэщчъЮАБЦДЕФГХИЙКЛМНОПЯРСТУЖВЬЫЗШЭЩЧЪ";
        if (b < 128) {
            return b;
        }
        if (b >= 192) {
            return letters.charAt(b - 192);
        }
        return b == 163 ? 'ё' : b == 179 ? 'Ё' : BAD;
    }

    private static void utf8() {
        due(4, row(0, 127), 0, 127);
        due(4, row(194, 128, 223, 191), 128, 2047);
        due(4, row(224, 160, 128, 239, 191, 191), 2048, 65535);
        due(4, row(237, 159, 191, 238, 128, 128), 55295, 57344);
        due(4, row(240, 144, 128, 128, 244, 143, 191, 191), 65536, 1114111);
        due(4, row(239, 187, 191, 65), 65279, 65);
        due(4, row(128), BAD);
        due(4, row(191, 191), BAD, BAD);
        due(4, row(192, 128), BAD, BAD);
        due(4, row(193, 191), BAD, BAD);
        due(4, row(194), BAD);
        due(4, row(194, 65), BAD, 65);
        due(4, row(194, 194, 128), BAD, 128);
        due(4, row(223, 192), BAD, BAD);
        due(4, row(224), BAD);
        due(4, row(224, 159, 128), BAD, BAD, BAD);
        due(4, row(224, 160), BAD);
        due(4, row(224, 160, 65), BAD, 65);
        due(4, row(225, 128, 225, 128), BAD, BAD);
        due(4, row(237, 160, 128), BAD, BAD, BAD);
        due(4, row(237, 159), BAD);
        due(4, row(238, 191, 191), 61439);
        due(4, row(240, 143, 128, 128), BAD, BAD, BAD, BAD);
        due(4, row(240, 144, 128), BAD);
        due(4, row(240, 144, 128, 65), BAD, 65);
        due(4, row(240, 144, 65), BAD, 65);
        due(4, row(240, 144), BAD);
        due(4, row(241, 128, 128, 128), 262144);
        due(4, row(244, 144, 128, 128), BAD, BAD, BAD, BAD);
        due(4, row(244, 143, 191), BAD);
        due(4, row(245, 128, 128, 128), BAD, BAD, BAD, BAD);
        due(4, row(255, 254), BAD, BAD);
        due(4, row(240, 159, 152, 128, 65), 128512, 65);
        due(4, row(224, 160, 240, 144, 128, 194, 65), BAD, BAD, BAD, 65);
    }

    private static void utf16() {
        due(6, row(0, 65, 32, 172), 65, 8364);
        due(7, row(65, 0, 172, 32), 65, 8364);
        due(6, row(254, 255, 0, 65), 65279, 65);
        due(7, row(255, 254, 65, 0), 65279, 65);
        due(6, row(216, 61, 222, 0), 128512);
        due(7, row(61, 216, 0, 222), 128512);
        due(6, row(216, 0, 220, 0, 219, 255, 223, 255), 65536, 1114111);
        due(6, row(216, 0), BAD);
        due(6, row(220, 0), BAD);
        due(6, row(220, 0, 220, 0), BAD, BAD);
        due(6, row(223, 255, 220, 0), BAD, BAD);
        due(6, row(219, 255, 219, 255), BAD, BAD);
        due(6, row(216, 0, 0, 65), BAD, 65);
        due(6, row(220, 0, 216, 0), BAD, BAD);
        due(6, row(216, 0, 216, 0, 220, 0), BAD, 65536);
        due(6, row(216, 0, 220, 0, 220, 0), 65536, BAD);
        due(6, row(216, 0, 224, 0), BAD, 57344);
        due(6, row(215, 255, 219, 255, 220, 0), 55295, 0x10FC00);
        due(6, row(65), BAD);
        due(7, row(65), BAD);
        due(6, row(0, 65, 66), 65, BAD);
        due(6, row(216, 0, 220), BAD, BAD);
        due(7, row(0, 216, 0), BAD, BAD);
        due(5, row(0, 65), 65);
        due(5, row(254, 255, 0, 65), 65);
        due(5, row(255, 254, 65, 0), 65);
        due(5, row(255, 254, 61, 216, 0, 222), 128512);
        due(5, row(254, 255));
        due(5, row(255, 254));
        due(5, row(254, 255, 254, 255), 65279);
        due(5, row(255, 254, 255, 254), 65279);
        due(5, row(254, 255, 255, 254), 65534);
        due(5, row(0, 65, 255, 254), 65, 65534);
        due(5, row(254), BAD);
        due(5, row(255), BAD);
        due(5, row(254, 255, 0), BAD);
        due(5, row(255, 255), 65535);
        due(5, row(254, 254), 65278);
        MailCharacters x = Checks.withTape(216, 0);
        x.read(6);
        Checks.add(x, 220, 0);
        x.read(6);
        Checks.dueRow("no half waits for the next read", Checks.text(x), BAD);
    }

    private static void utf7() {
        due(9, "abc \\~\r\n\t\0\u007f", "abc \\~\r\n\t\0\u007f");
        due(9, row(65, 128, 255, 66), 65, BAD, BAD, 66);
        due(9, "+-", "+");
        due(9, "a+-b", "a+b");
        due(9, "+--", "+-");
        due(9, "+-+-", "++");
        due(9, "-", "-");
        due(9, "a-b", "a-b");
        due(9, "+", "");
        due(9, "+!", "!");
        due(9, "+\u00ff", BAD);
        due(9, "+A-", "");
        due(9, "+AO-", "");
        due(9, "+AOk-", "é");
        due(9, "+AOk", "é");
        due(9, "+AOk!", "é!");
        due(9, "+AOk--", "é-");
        due(9, "+AOk-+AOk-", "éé");
        due(9, "+AOk-A", "éA");
        due(9, "+AOkA-", "é");
        due(9, "+AOkA6Q-", "éé");
        due(9, "+AGEAYg-c", "abc");
        due(9, "+AOn/-", "é");
        due(9, "++-", "");
        due(9, "++/s-", 0xFBFB);
        due(9, "++/v-", 0xFBFB);
        due(9, "+AOk=x", "é=x");
        due(9, "+AOk\n+AOk", "é\né");
        due(9, row('+', 'A', 'O', 'k', 200), 233, BAD);
        due(9, "+2D3eAA-", 128512);
        due(9, "+2D0-", BAD);
        due(9, "+2D0", BAD);
        due(9, "+3gA-", BAD);
        due(9, "+2D0-+3gA-", BAD, BAD);
        due(9, "+2D0-x", BAD, 'x');
        due(9, "+2D0AQQ-", BAD, 'A');
        due(9, "+2D3YPd4A-", BAD, 128512);
    }
}
