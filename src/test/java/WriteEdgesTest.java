import java.util.Arrays;

/** The boundary cases that the document names for characters made to bytes: promise 8. */
public final class WriteEdgesTest {
    private static final int BAD = 65533;

    public static void main(String[] args) {
        tapeIsTheText();
        charactersNotHad();
        charactersOfLatin9();
        charactersOfWindows();
        charactersOfKoi();
        badCharacters();
        utf8Widths();
        utf16Mark();
        utf16Pairs();
        utf7Themselves();
        utf7Plus();
        utf7Runs();
        endsAheadOfACharacter();
        endsAheadInUtf16();
        endsAheadInUtf7();
        noSuchCharset();
        Checks.finish();
    }

    /** A new object with these characters as its text, by way of UTF16BE, which has them all. */
    private static MailCharacters withText(int... characters) {
        int units = Arrays.stream(characters).map(Character::charCount).sum();
        int[] tape = new int[units * 2];
        int at = 0;
        for (int c : characters) {
            for (char unit : Character.toChars(c)) {
                tape[at++] = unit >> 8;
                tape[at++] = unit & 255;
            }
        }
        MailCharacters x = Checks.withTape(tape);
        x.read(6);
        return x;
    }

    private static void due(int charset, int[] text, int... want) {
        MailCharacters x = withText(text);
        String what = "write(" + charset + ") of " + Arrays.toString(text);
        Checks.due(what, x.write(charset), want.length);
        Checks.dueTape(what, x, new String(want, 0, want.length));
        Checks.due(what + ", the text stays", x.count(1), text.length);
    }

    private static void due(int charset, String text, String want) {
        due(charset, text.codePoints().toArray(), Checks.bytesOf(want));
    }

    private static int[] row(int... values) {
        return values;
    }

    private static String of(int... characters) {
        return new String(characters, 0, characters.length);
    }

    private static void tapeIsTheText() {
        Checks.sentence("The TAPE is the TEXT by a CHARSET: how many bytes");
        for (int charset = 0; charset < 10; charset++) {
            MailCharacters x = Checks.withTape("before");
            Checks.due("write(" + charset + ") of no text", x.write(charset), charset == 5 ? 2 : 0);
            Checks.dueTape("write(" + charset + ") of no text", x, charset == 5 ? "\u00fe\u00ff" : "");
            x = Checks.holding("before");
            int[] sizes = {3, 3, 3, 3, 7, 8, 6, 6, 3, 11};
            Checks.due("write(" + charset + ")", x.write(charset), sizes[charset]);
            Checks.due("what was there is gone", x.count(0), sizes[charset]);
            Checks.dueText("write(" + charset + ")", x, BAD, 65, BAD);
            Checks.due("the ready bytes stay", x.end(1), sizes[charset] + 1);
            Checks.due("behind the others", x.byteAt(sizes[charset]), 'R');
        }
    }

    private static void charactersNotHad() {
        Checks.sentence("a character that it doesn't have is a ?");
        due(0, row(0, 127, 128, 255, 256), 0, 127, '?', '?', '?');
        due(1, row(0, 127, 128, 255, 256, 257), 0, 127, 128, 255, '?', '?');
        for (int charset : row(0, 1, 2, 3, 8)) {
            for (int c = 0; c < 128; c++) {
                due(charset, row(c), c);
            }
            for (int c : row(55295, 57344, 65532, 65533, 65534, 65535, 65536, 65601, 1114111)) {
                due(charset, row(c), '?');
                due(charset, row('a', c, 'b'), 'a', '?', 'b');
            }
        }
        for (int charset : row(4, 5, 6, 7, 9)) {
            for (int c : row(0, 127, 128, 255, 256, 2047, 2048, 55295, 57344, 65533, 65535, 65536, 1114111)) {
                MailCharacters x = withText(c);
                x.write(charset);
                x.read(charset);
                Checks.dueText("write(" + charset + ") and read of " + c, x, c);
            }
        }
    }

    /** Each character up to 9000 is written as the one byte of this row that it is, or as a ?. */
    private static void dueByRow(int charset, int[] characters) {
        for (int c = 0; c < 9000; c++) {
            int want = '?';
            for (int b = 0; b < 256; b++) {
                if (characters[b] == c) {
                    want = b;
                }
            }
            MailCharacters x = withText(c);
            Checks.due("write(" + charset + ") of " + c, x.write(charset), 1);
            Checks.due("write(" + charset + ") of " + c, x.byteAt(0), want);
        }
    }

    private static void charactersOfLatin9() {
        Checks.sentence("LATIN9: itself but 164 is 8364");
        int[] all = new int[256];
        Arrays.setAll(all, b -> b);
        int[] pairs = {164, 8364, 166, 352, 168, 353, 180, 381, 184, 382, 188, 338, 189, 339, 190, 376};
        for (int k = 0; k < pairs.length; k += 2) {
            all[pairs[k]] = pairs[k + 1];
            due(2, row(pairs[k], pairs[k + 1]), '?', pairs[k]);
        }
        dueByRow(2, all);
    }

    private static void charactersOfWindows() {
        Checks.sentence("WINDOWS: itself but 128 .. 159, which are 8364, BAD, 8218");
        int[] all = new int[256];
        Arrays.setAll(all, b -> b);
        int[] others = {8364, BAD, 8218, 402, 8222, 8230, 8224, 8225, 710, 8240, 352, 8249, 338, BAD, 381, BAD, BAD, 8216,
            8217, 8220, 8221, 8226, 8211, 8212, 732, 8482, 353, 8250, 339, BAD, 382, 376};
        System.arraycopy(others, 0, all, 128, 32);
        dueByRow(3, all);
        due(3, row(127, 128, 159, 160, 255, 256), 127, '?', '?', 160, 255, '?');
        due(3, row(8364, 376), 128, 159);
    }

    private static void charactersOfKoi() {
        Checks.sentence("KOI: below 128 itself; 192 .. 255 are the letters");
        int[] all = new int[256];
        Arrays.fill(all, BAD);
        int[] letters = {1102, 1072, 1073, 1094, 1076, 1077, 1092, 1075, 1093, 1080, 1081, 1082, 1083, 1084, 1085, 1086, 1087,
            1103, 1088, 1089, 1090, 1091, 1078, 1074, 1100, 1099, 1079, 1096, 1101, 1097, 1095, 1098};
        for (int b = 0; b < 128; b++) {
            all[b] = b;
        }
        for (int k = 0; k < 32; k++) {
            all[192 + k] = letters[k];
            all[224 + k] = letters[k] - 32;
        }
        all[163] = 1105;
        all[179] = 1025;
        dueByRow(8, all);
        due(8, row(1024, 1025, 1026), '?', 179, '?');
        due(8, row(1039, 1040, 1071, 1072, 1103, 1104, 1105, 1106), '?', 225, 241, 193, 209, '?', 163, '?');
    }

    private static void badCharacters() {
        Checks.sentence("BAD is 65533.");
        for (int charset : row(0, 1, 2, 3, 8)) {
            due(charset, row(BAD), '?');
        }
        due(4, row(BAD), 239, 191, 189);
        due(5, row(BAD), 254, 255, 255, 253);
        due(6, row(BAD), 255, 253);
        due(7, row(BAD), 253, 255);
        due(9, of(BAD), "+//0-");
    }

    private static void utf8Widths() {
        Checks.sentence("UTF8: 194 .. 223 and one, 224 .. 239 and two, 240 .. 244 and three bytes 128 .. 191");
        due(4, row(0), 0);
        due(4, row(127), 127);
        due(4, row(128), 194, 128);
        due(4, row(2047), 223, 191);
        due(4, row(2048), 224, 160, 128);
        due(4, row(55295), 237, 159, 191);
        due(4, row(57344), 238, 128, 128);
        due(4, row(65535), 239, 191, 191);
        due(4, row(65536), 240, 144, 128, 128);
        due(4, row(1114111), 244, 143, 191, 191);
        due(4, row(233, 8364, 128512), 195, 169, 226, 130, 172, 240, 159, 152, 128);
        for (int bit = 0; bit < 20; bit++) {
            int c = 65536 + (1 << bit);
            due(4, row(c), 240 | c >> 18, 128 | c >> 12 & 63, 128 | c >> 6 & 63, 128 | c & 63);
        }
    }

    private static void utf16Mark() {
        Checks.sentence("UTF16 begins with 254 255");
        due(5, row(), 254, 255);
        due(6, row());
        due(7, row());
        due(5, row(258), 254, 255, 1, 2);
        due(6, row(258), 1, 2);
        due(7, row(258), 2, 1);
        due(5, row(65279), 254, 255, 254, 255);
        due(5, row(65534), 254, 255, 255, 254);
    }

    private static void utf16Pairs() {
        Checks.sentence("55296 .. 56319 and 56320 .. 57343 behind it are one character");
        due(6, row(65535), 255, 255);
        due(6, row(65536), 216, 0, 220, 0);
        due(6, row(66559), 216, 0, 223, 255);
        due(6, row(66560), 216, 1, 220, 0);
        due(6, row(1114111), 219, 255, 223, 255);
        due(7, row(65536), 0, 216, 0, 220);
        due(7, row(1114111), 255, 219, 255, 223);
        due(5, row(65536), 254, 255, 216, 0, 220, 0);
    }

    private static void utf7Themselves() {
        Checks.sentence("UTF7: characters 32 .. 126 but + and \\ and ~, 9, 10 and 13, are themselves");
        for (int c = 0; c < 300; c++) {
            boolean themselves = c >= 32 && c <= 126 && c != '+' && c != '\\' && c != '~' || c == 9 || c == 10 || c == 13;
            MailCharacters x = withText(c);
            int want = themselves ? 1 : c == '+' ? 2 : 5;
            Checks.due("write(9) of " + c, x.write(9), want);
            Checks.due("its first byte", x.byteAt(0), themselves ? c : '+');
            Checks.due("its last byte", x.byteAt(want - 1), themselves ? c : '-');
            x.read(9);
            Checks.dueText("back from UTF7", x, c);
        }
        due(9, of(8), "+AAg-");
        due(9, of(11), "+AAs-");
        due(9, of(12), "+AAw-");
        due(9, of(14), "+AA4-");
        due(9, of(31), "+AB8-");
        due(9, " }", " }");
        due(9, "[\\]", "[+AFw-]");
        due(9, "}~", "}+AH4-");
        due(9, of(127), "+AH8-");
    }

    private static void utf7Plus() {
        Checks.sentence("+ is +-");
        due(9, "+", "+-");
        due(9, "*+,", "*+-,");
        due(9, "++", "+-+-");
        due(9, "+-", "+--");
        due(9, "\u00e9+\u00e9", "+AOk-+-+AOk-");
    }

    private static void utf7Runs() {
        Checks.sentence("others in RUNs, as long as they go on, each with a - behind");
        due(9, "\u00e9", "+AOk-");
        due(9, "\u00e9\u00e9", "+AOkA6Q-");
        due(9, "\u00e9\u00e9\u00e9", "+AOkA6QDp-");
        due(9, "\u00e9\u00e9\u00e9\u00e9", "+AOkA6QDpAOk-");
        due(9, "\u00e9a\u00e9", "+AOk-a+AOk-");
        due(9, "\u00e9-", "+AOk--");
        due(9, "\u00e9 \t\r\n\u00e9", "+AOk- \t\r\n+AOk-");
        due(9, "a\u00e9", "a+AOk-");
        due(9, "\\~\u007f\0", "+AFwAfgB/AAA-");
        due(9, of(65535), "+//8-");
        due(9, of(65536), "+2ADcAA-");
        due(9, of(1114111), "+2//f/w-");
        due(9, of(233, 65536), "+AOnYANwA-");
    }

    private static MailCharacters byLatin1(String text) {
        MailCharacters x = Checks.withTape(text);
        x.read(1);
        return x;
    }

    private static void dueSize(MailCharacters x, int charset, int want, int last) {
        int size = x.count(1);
        String what = "write(" + charset + ") of " + size + " characters";
        Checks.due(what, x.write(charset), want);
        Checks.due(what + ", count(0)", x.count(0), want);
        Checks.due(what + ", the last", x.byteAt(want - 1), last);
        Checks.due(what + ", the one behind it", x.byteAt(want), -1);
        Checks.due(what + ", the text stays", x.count(1), size);
    }

    private static int[] many(int c, int times, int... more) {
        int[] row = new int[times + more.length];
        Arrays.fill(row, 0, times, c);
        System.arraycopy(more, 0, row, times, more.length);
        return row;
    }

    private static void endsAheadOfACharacter() {
        Checks.sentence("it ends ahead of a character, or RUN, that would make more than 1500 bytes");
        for (int charset : row(0, 1, 2, 3, 4, 8, 9)) {
            dueSize(byLatin1("x".repeat(1498) + "y"), charset, 1499, 'y');
            dueSize(byLatin1("x".repeat(1499) + "y"), charset, 1500, 'y');
        }
        // two bytes each
        dueSize(byLatin1("\u00e9".repeat(749)), 4, 1498, 169);
        dueSize(byLatin1("\u00e9".repeat(750)), 4, 1500, 169);
        dueSize(byLatin1("\u00e9".repeat(751)), 4, 1500, 169);
        dueSize(byLatin1("\u00e9".repeat(749) + "x\u00e9"), 4, 1499, 'x');
        dueSize(byLatin1("\u00e9".repeat(749) + "x\u00e9y"), 4, 1499, 'x');
        dueSize(byLatin1("\u00e9".repeat(749) + "xyz"), 4, 1500, 'y');
        // three
        dueSize(withText(many(8364, 499, 'x', 'y')), 4, 1499, 'y');
        dueSize(withText(many(8364, 500)), 4, 1500, 172);
        dueSize(withText(many(8364, 501)), 4, 1500, 172);
        dueSize(withText(many(8364, 499, 'x', 8364, 'y')), 4, 1498, 'x');
        dueSize(withText(many(8364, 499, 'x', 'y', 8364, 'z')), 4, 1499, 'y');
        dueSize(withText(many(8364, 499, 233, 8364, 'z')), 4, 1499, 169);
        // four
        dueSize(withText(many(8364, 498, 'x', 'y', 128512, 'z')), 4, 1500, 128);
        dueSize(withText(many(8364, 499, 128512, 'z')), 4, 1497, 172);
        dueSize(withText(many(8364, 499, 'x', 128512, 'z')), 4, 1498, 'x');
        dueSize(withText(many(8364, 499, 'x', 'y', 128512, 'z')), 4, 1499, 'y');
        dueSize(withText(many(8364, 500, 128512)), 4, 1500, 172);
    }

    private static void endsAheadInUtf16() {
        Checks.sentence("ahead of a character, or RUN, that would make more than 1500 bytes");
        dueSize(byLatin1("x".repeat(748) + "y"), 6, 1498, 'y');
        dueSize(byLatin1("x".repeat(749) + "y"), 6, 1500, 'y');
        dueSize(byLatin1("x".repeat(749) + "yz"), 6, 1500, 'y');
        dueSize(byLatin1("x".repeat(749) + "\u00fe"), 7, 1500, 0);
        dueSize(byLatin1("x".repeat(1500)), 7, 1500, 0);
        dueSize(byLatin1("x".repeat(747) + "y"), 5, 1498, 'y');
        dueSize(byLatin1("x".repeat(748) + "y"), 5, 1500, 'y');
        dueSize(byLatin1("x".repeat(748) + "yz"), 5, 1500, 'y');
        for (int charset : row(5, 6, 7)) {
            int room = charset == 5 ? 749 : 750;
            dueSize(Checks.withText("x".repeat(room - 2) + of(1114111)), charset, 1500, charset == 7 ? 223 : 255);
            dueSize(Checks.withText("x".repeat(room - 1) + of(1114111)), charset, 1498, charset == 7 ? 0 : 'x');
            dueSize(Checks.withText("x".repeat(room - 1) + of(1114111) + "y"), charset, 1498, charset == 7 ? 0 : 'x');
            dueSize(Checks.withText("x".repeat(room) + of(1114111)), charset, 1500, charset == 7 ? 0 : 'x');
        }
    }

    private static void endsAheadInUtf7() {
        Checks.sentence("or RUN, that would make more than 1500 bytes");
        dueSize(byLatin1("x".repeat(1498) + "+"), 9, 1500, '-');
        dueSize(byLatin1("x".repeat(1499) + "+"), 9, 1499, 'x');
        dueSize(byLatin1("+".repeat(750) + "x"), 9, 1500, '-');
        dueSize(byLatin1("x" + "+".repeat(750)), 9, 1499, '-');
        // a RUN of 1, 2, 3 units is of 5, 8, 10 bytes
        int[] bytes = {5, 8, 10};
        for (int units = 1; units <= 3; units++) {
            int ahead = 1500 - bytes[units - 1];
            dueSize(byLatin1("x".repeat(ahead) + "\u00e9".repeat(units)), 9, 1500, '-');
            dueSize(byLatin1("x".repeat(ahead - 1) + "\u00e9".repeat(units) + "y"), 9, 1500, 'y');
            if (ahead + 1 + units <= 1500) {
                dueSize(byLatin1("x".repeat(ahead + 1) + "\u00e9".repeat(units)), 9, ahead + 1, 'x');
            }
            if (ahead + 2 + units <= 1500) {
                dueSize(byLatin1("x".repeat(ahead + 1) + "\u00e9".repeat(units) + "y"), 9, ahead + 1, 'x');
            }
        }
        dueSize(Checks.withText("x".repeat(1492) + of(65536)), 9, 1500, '-');
        dueSize(Checks.withText("x".repeat(1493) + of(65536)), 9, 1493, 'x');
        // 561 units are 1496 letters, 562 are 1499
        dueSize(byLatin1("\u00e9".repeat(561)), 9, 1498, '-');
        dueSize(byLatin1("\u00e9".repeat(561) + "xyz"), 9, 1500, 'y');
        dueSize(byLatin1("\u00e9".repeat(562)), 9, 0, -1);
        dueSize(byLatin1("\u00e9".repeat(562) + "x"), 9, 0, -1);
        dueSize(byLatin1("\u00e9".repeat(1500)), 9, 0, -1);
        dueSize(withText(many(233, 559, 65536)), 9, 1498, '-');
        dueSize(withText(many(233, 560, 65536)), 9, 0, -1);
        dueSize(byLatin1("x" + "\u00e9".repeat(561) + "y" + "\u00e9"), 9, 1500, 'y');
        dueSize(byLatin1("xyz" + "\u00e9".repeat(561) + "z"), 9, 3, 'z');
    }

    private static void noSuchCharset() {
        Checks.sentence("IllegalArgumentException: no such CHARSET.");
        for (int charset : new int[] {-2, -1, 10, 11, 256, Integer.MIN_VALUE, Integer.MAX_VALUE}) {
            for (String tape : new String[] {"", "tape", "x".repeat(1500)}) {
                MailCharacters x = Checks.holding(tape);
                Checks.dueThrow("write(" + charset + ")", IllegalArgumentException.class, () -> x.write(charset));
                Checks.dueHeld("write(" + charset + ")", x, tape);
            }
        }
        Checks.due("write(0)", Checks.holding("tape").write(0), 3);
        Checks.due("write(9)", Checks.holding("tape").write(9), 11);
    }
}
