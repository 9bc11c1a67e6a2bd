/** Promise 8: write. */
public final class WriteTest {
    public static void main(String[] args) {
        wrongCharsets();
        singleBytes();
        utf8();
        utf16();
        utf7();
        endsAheadOfTooMuch();
        state();
        Checks.finish();
    }

    private static void due(int charset, String text, int... want) {
        MailCharacters x = Checks.withText(text);
        String what = "write(" + charset + ") of " + Checks.shown(text);
        Checks.due(what + ", how many", x.write(charset), want.length);
        Checks.dueRow(what, Checks.tape(x), want);
        Checks.due(what + ", text", Checks.textString(x), text);
    }

    private static void due(int charset, String text, String want) {
        due(charset, text, Checks.bytesOf(want));
    }

    private static String of(int... characters) {
        return new String(characters, 0, characters.length);
    }

    private static void wrongCharsets() {
        int[] wrong = {-1, 10, 11, Integer.MIN_VALUE, Integer.MAX_VALUE};
        for (int charset : wrong) {
            MailCharacters x = Checks.withText("abc");
            Checks.add(x, "tape");
            Checks.dueThrow("write(" + charset + ")", IllegalArgumentException.class, () -> x.write(charset));
            Checks.due("the tape stays", Checks.tapeString(x), "tape");
            Checks.due("the text stays", Checks.textString(x), "abc");
        }
    }

    /** Each byte that has a character comes back from it; every other character is a ?. */
    private static void singleBytes() {
        int[] charsets = {0, 1, 2, 3, 8};
        for (int charset : charsets) {
            boolean[] has = new boolean[65536];
            for (int b = 0; b < 256; b++) {
                MailCharacters x = Checks.withTape(b);
                x.read(charset);
                int c = x.at(0);
                Checks.due("write(" + charset + ") of one", x.write(charset), 1);
                Checks.due("write(" + charset + ") of " + c, x.byteAt(0), c == 65533 ? '?' : b);
                has[c] = c != 65533;
            }
            for (int c = 0; c < 9000; c++) {
                if (!has[c]) {
                    due(charset, of(c), '?');
                }
            }
            due(charset, of(65535, 65536, 128512, 1114111), "????");
            due(charset, of('a', 65533, 'b'), "a?b");
        }
        due(0, "a\u00e9b", "a?b");
        due(2, "\u20ac\u00a4", 164, '?');
        due(3, "\u20ac\u0080\u0081\u00ff", 128, '?', '?', 255);
        due(8, "\u0451\u0401\u044e\u042e\u00a3", 163, 179, 192, 224, '?');
    }

    private static void utf8() {
        due(4, "");
        due(4, of(0, 127), 0, 127);
        due(4, of(128, 2047), 194, 128, 223, 191);
        due(4, of(2048, 55295, 57344, 65535), 224, 160, 128, 237, 159, 191, 238, 128, 128, 239, 191, 191);
        due(4, of(65536, 1114111), 240, 144, 128, 128, 244, 143, 191, 191);
        due(4, of(65533), 239, 191, 189);
    }

    private static void utf16() {
        due(5, "", 254, 255);
        due(6, "");
        due(7, "");
        due(5, of('a', 8364), 254, 255, 0, 97, 32, 172);
        due(6, of('a', 8364), 0, 97, 32, 172);
        due(7, of('a', 8364), 97, 0, 172, 32);
        due(5, of(128512), 254, 255, 216, 61, 222, 0);
        due(6, of(65536, 1114111), 216, 0, 220, 0, 219, 255, 223, 255);
        due(7, of(65536, 1114111), 0, 216, 0, 220, 255, 219, 255, 223);
        due(6, of(65533), 255, 253);
    }

    private static void utf7() {
        due(9, "", "");
        StringBuilder direct = new StringBuilder("\t\n\r");
        for (char c = 32; c < 126; c++) {
            if (c != '+' && c != '\\') {
                direct.append(c);
            }
        }
        due(9, direct.toString(), direct.toString());
        due(9, "+", "+-");
        due(9, "++", "+-+-");
        due(9, "a+b", "a+-b");
        due(9, "\\", "+AFw-");
        due(9, "~", "+AH4-");
        due(9, "\\~", "+AFwAfg-");
        due(9, of(0), "+AAA-");
        due(9, of(8), "+AAg-");
        due(9, of(11), "+AAs-");
        due(9, of(31), "+AB8-");
        due(9, of(127), "+AH8-");
        due(9, "\u00e9", "+AOk-");
        due(9, "\u00e9\u00e9", "+AOkA6Q-");
        due(9, "\u00e9\u00e9\u00e9", "+AOkA6QDp-");
        due(9, "a\u00e9b\u00e9-", "a+AOk-b+AOk--");
        due(9, "\u00e9+\u00e9", "+AOk-+-+AOk-");
        due(9, of(128512), "+2D3eAA-");
        due(9, of(233, 128512, 'x'), "+AOnYPd4A-x");
        due(9, of(65533), "+//0-");
    }

    private static void endsAheadOfTooMuch() {
        String full = "a".repeat(1500);
        due(0, full, full);
        due(4, full, full);
        due(9, full, full);
        due(6, full, "\0a".repeat(750));
        due(7, full, "a\0".repeat(750));
        due(5, full, "\u00fe\u00ff" + "\0a".repeat(749));

        Checks.due("1500 of LATIN1 in UTF8", latin1("\u00e9".repeat(1500)).write(4), 1500);
        endsAheadInUtf8();
        endsAheadInUtf16();
        endsAheadInUtf7();
    }

    private static void dueWidth(String text, int charset, int want) {
        Checks.due("write(" + charset + ") of " + text.length(), Checks.withText(text).write(charset), want);
    }

    /** A text of LATIN1 takes more bytes in UTF8 than it had. */
    private static MailCharacters latin1(String text) {
        MailCharacters x = Checks.withTape(text);
        x.read(1);
        return x;
    }

    private static void endsAheadInUtf8() {
        MailCharacters x = latin1("a" + "\u00e9".repeat(749) + "\u00e9b");
        Checks.due("UTF8 ends ahead of two bytes for one", x.write(4), 1499);
        Checks.due("and nothing behind it comes", x.byteAt(1498), 169);
        dueWidth("a".repeat(1496) + of(128512), 4, 1500);
        Checks.due("UTF8 of what just goes", latin1("ab" + "\u00e9".repeat(749)).write(4), 1500);
        x = Checks.withTape("\u0080".repeat(1500));
        x.read(3);
        Checks.due("UTF8, three bytes each", x.write(4), 1500);
        x = Checks.withTape("a" + "\u0080".repeat(1400) + "b");
        x.read(3);
        Checks.due("UTF8, three bytes each behind one", x.write(4), 1498);
    }

    private static void endsAheadInUtf16() {
        String pair = of(128512);
        dueWidth("a".repeat(748) + pair, 6, 1500);
        dueWidth("a".repeat(749) + pair + "a", 6, 1498);
        dueWidth("a".repeat(749) + pair + "a", 7, 1498);
        dueWidth("a".repeat(747) + pair, 5, 1500);
        dueWidth("a".repeat(748) + pair + "a", 5, 1498);
        dueWidth("a".repeat(749) + "a", 6, 1500);
        dueWidth("a".repeat(749) + "a", 5, 1500);
    }

    private static void endsAheadInUtf7() {
        Checks.due("a RUN that goes, 1500", latin1("a".repeat(1495) + "\u00e9").write(9), 1500);
        Checks.due("a RUN that does not go", latin1("a".repeat(1496) + "\u00e9a").write(9), 1496);
        Checks.due("a RUN of three that goes", latin1("a".repeat(1490) + "\u00e9\u00e9\u00e9a").write(9), 1500);
        Checks.due("a RUN of three that does not go", latin1("a".repeat(1491) + "\u00e9\u00e9\u00e9a").write(9), 1491);
        Checks.due("a RUN of two that does not go", latin1("a".repeat(1493) + "\u00e9\u00e9a").write(9), 1493);
        Checks.due("a RUN of two that goes", latin1("a".repeat(1492) + "\u00e9\u00e9a").write(9), 1500);
        Checks.due("+ that goes", latin1("a".repeat(1498) + "+").write(9), 1500);
        Checks.due("+ that does not go", latin1("a".repeat(1499) + "+").write(9), 1499);
        // 561 units are 1496 letters, 562 are 1499
        Checks.due("one RUN as long as can be", latin1("\u00e9".repeat(561) + "a").write(9), 1499);
        Checks.due("one RUN too long", latin1("\u00e9".repeat(562) + "a").write(9), 0);
        Checks.due("one RUN far too long", latin1("\u00e9".repeat(1500)).write(9), 0);
        Checks.due("the tape is empty then", latin1("\u00e9".repeat(1500)).count(0), 0);
    }

    private static void state() {
        MailCharacters x = Checks.withText("abc");
        Checks.add(x, "tape");
        Checks.due("write", x.write(0), 3);
        Checks.due("the tape is the text alone", Checks.tapeString(x), "abc");
        Checks.due("write again", x.write(6), 6);
        Checks.due("read it", x.read(6), 3);
        Checks.due("the text", Checks.textString(x), "abc");
        Checks.due("the tape goes on behind a write", x.write(0) + x.end(2), 8);
    }
}
