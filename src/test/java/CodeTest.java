/** Promise 9: code. */
public final class CodeTest {
    public static void main(String[] args) {
        wrongCodings();
        base64();
        quotedBytes();
        quotedLineEnds();
        quotedLongLines();
        tooMuch();
        state();
        Checks.finish();
    }

    private static void due(int coding, String tape, String want) {
        MailCharacters x = Checks.withTape(tape);
        String what = "code(" + coding + ") of " + Checks.shown(tape);
        Checks.due(what + ", how many", x.code(coding), want.length());
        Checks.due(what, Checks.tapeString(x), want);
        Checks.due(what + " and back, how many", x.uncode(coding), tape.length());
        Checks.due(what + " and back", Checks.tapeString(x), tape);
    }

    private static void wrongCodings() {
        int[] wrong = {-1, 0, 3, 4, Integer.MIN_VALUE, Integer.MAX_VALUE};
        for (int coding : wrong) {
            MailCharacters x = Checks.withTape("tape");
            Checks.dueThrow("code(" + coding + ")", IllegalArgumentException.class, () -> x.code(coding));
            Checks.due("the tape stays", Checks.tapeString(x), "tape");
        }
        MailCharacters full = Checks.withTape("x".repeat(1500));
        Checks.dueThrow("code(0) of a full tape", IllegalArgumentException.class, () -> full.code(0));
        Checks.dueThrow("code(3) of a full tape", IllegalArgumentException.class, () -> full.code(3));
    }

    private static void base64() {
        due(1, "", "");
        due(1, "A", "QQ==");
        due(1, "AB", "QUI=");
        due(1, "ABC", "QUJD");
        due(1, "ABCD", "QUJDRA==");
        due(1, "\0\0\0", "AAAA");
        due(1, "\u00ff\u00ff\u00ff", "////");
        due(1, "\u00fb\u00ef\u00be", "++++");
        due(1, "az09", "YXowOQ==");
        due(1, "A".repeat(54), "QUFB".repeat(18));
        due(1, "A".repeat(55), "QUFB".repeat(18) + "QQ==");
        due(1, "A".repeat(57), "QUFB".repeat(19));
        due(1, "A".repeat(58), "QUFB".repeat(19) + "\r\nQQ==");
        due(1, "A".repeat(114), "QUFB".repeat(19) + "\r\n" + "QUFB".repeat(19));
        due(1, "A".repeat(116), "QUFB".repeat(19) + "\r\n" + "QUFB".repeat(19) + "\r\nQUE=");
    }

    private static void quotedBytes() {
        due(2, "", "");
        for (int b = 0; b < 256; b++) {
            boolean itself = b >= 33 && b <= 126 && b != '=';
            String one = String.valueOf((char) b);
            due(2, one, itself ? one : String.format("=%02X", b));
            boolean inside = itself || b == 32 || b == 9;
            due(2, one + "x", (inside ? one : String.format("=%02X", b)) + "x");
        }
    }

    private static void quotedLineEnds() {
        due(2, "a\r\nb", "a\r\nb");
        due(2, "a\r\n", "a\r\n");
        due(2, "\r\n", "\r\n");
        due(2, "\r\n\r\n", "\r\n\r\n");
        due(2, "a \r\nb\t\r\nc ", "a=20\r\nb=09\r\nc=20");
        due(2, "a  ", "a =20");
        due(2, " \t", " =09");
        due(2, "a \rb", "a =0Db");
        due(2, "a \nb", "a =0Ab");
        due(2, "a\rb\nc", "a=0Db=0Ac");
        due(2, "\r\r\n", "=0D\r\n");
        due(2, " \r\r\n", " =0D\r\n");
        due(2, "\n\r", "=0A=0D");
        due(2, "a\r", "a=0D");
        due(2, "a \r", "a =0D");
        due(2, "\r\n\n", "\r\n=0A");
    }

    private static void quotedLongLines() {
        String x75 = "x".repeat(75);
        due(2, x75, x75);
        due(2, x75 + "y", x75 + "=\r\ny");
        due(2, x75 + "\r\ny", x75 + "\r\ny");
        due(2, x75 + "y\r\nz", x75 + "=\r\ny\r\nz");
        due(2, x75 + x75, x75 + "=\r\n" + x75);
        due(2, x75 + x75 + "y", x75 + "=\r\n" + x75 + "=\r\ny");
        due(2, "x".repeat(72) + "=", "x".repeat(72) + "=3D");
        due(2, "x".repeat(73) + "=", "x".repeat(73) + "=\r\n=3D");
        due(2, "x".repeat(74) + "=", "x".repeat(74) + "=\r\n=3D");
        due(2, x75 + "=", x75 + "=\r\n=3D");
        due(2, "\u00ff".repeat(25), "=FF".repeat(25));
        due(2, "\u00ff".repeat(26), "=FF".repeat(25) + "=\r\n=FF");
        due(2, "x".repeat(74) + " y", "x".repeat(74) + " =\r\ny");
        due(2, "x".repeat(74) + " ", "x".repeat(74) + "=\r\n=20");
        due(2, "x".repeat(72) + " ", "x".repeat(72) + "=20");
        due(2, x75 + " y", x75 + "=\r\n y");
        due(2, x75 + " \r\ny", x75 + "=\r\n=20\r\ny");
        due(2, "ab\r\n" + x75 + "y", "ab\r\n" + x75 + "=\r\ny");
    }

    private static void tooMuch() {
        // 57 bytes a line: 19 lines are 19 * 76 and 18 times 13 10
        Checks.due("19 lines", Checks.withTape("A".repeat(57 * 19)).code(1), 1480);
        Checks.due("20 lines that go", Checks.withTape("A".repeat(57 * 19 + 12)).code(1), 1498);
        refused(1, "A".repeat(57 * 19 + 13));
        refused(1, "A".repeat(1500));
        refused(2, "=".repeat(1500));
        refused(2, "x".repeat(1500));
        // 19 lines of 75 and 18 times = 13 10 are 1479
        Checks.due("20 lines, 1500", Checks.withTape("x".repeat(75 * 19 + 18)).code(2), 1500);
        refused(2, "x".repeat(75 * 19 + 19));
        Checks.due("line ends, 1500", Checks.withTape("\r\n".repeat(750)).code(2), 1500);
        refused(2, "\r\n".repeat(749) + "\n");
    }

    private static void refused(int coding, String tape) {
        MailCharacters x = Checks.withText("text");
        Checks.add(x, tape);
        Checks.dueThrow("code(" + coding + ") of " + tape.length(), IllegalStateException.class, () -> x.code(coding));
        Checks.due("the tape stays", Checks.tapeString(x), tape);
        Checks.due("the text stays", Checks.textString(x), "text");
        Checks.dueThrow("once more", IllegalStateException.class, () -> x.code(coding));
        x.charset();
        Checks.add(x, "A");
        Checks.due("a tape that goes, behind one that didn't", x.code(1), 4);
    }

    private static void state() {
        MailCharacters x = Checks.withText("text");
        Checks.add(x, "ABC");
        x.code(1);
        Checks.due("the text stays", Checks.textString(x), "text");
        Checks.due("coded twice", x.code(2), 4);
        Checks.add(x, "RA==");
        Checks.due("and the tape goes on", x.uncode(1), 4);
        Checks.due("to", Checks.tapeString(x), "ABCD");
    }
}
