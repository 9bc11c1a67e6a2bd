/** The boundary cases that the document names for codings made: promise 9. */
public final class CodeEdgesTest {
    public static void main(String[] args) {
        letters();
        lettersOfALine();
        equalsAtTheEnd();
        themselves();
        blanksAtALinesEnd();
        lineEnds();
        twoDigits();
        softEnds();
        softEndsOfThrees();
        softEndsAndBlanks();
        betweenLines();
        basedBeyond1500();
        quotedBeyond1500();
        anotherCoding();
        Checks.finish();
    }

    private static void due(int coding, String tape, String want) {
        MailCharacters x = Checks.withTape(tape);
        String what = "code(" + coding + ") of " + Checks.shown(tape);
        Checks.due(what, x.code(coding), want.length());
        Checks.dueTape(what, x, want);
        Checks.due(what + " and back", x.uncode(coding), tape.length());
    }

    private static String x(int times) {
        return "x".repeat(times);
    }

    private static void letters() {
        Checks.sentence("A .. Z a .. z 0 .. 9 + / are 0 .. 63");
        String all = "ABCDEFGHIJKLMNOPQRSTUVWXYZabcdefghijklmnopqrstuvwxyz0123456789+/";
        for (int value = 0; value < 64; value++) {
            due(1, "\0\0" + (char) value, "AAA" + all.charAt(value));
            due(1, "" + (char) (value * 4), all.charAt(value) + "A==");
        }
    }

    private static void lettersOfALine() {
        Checks.sentence("BASE64: 76 letters a line");
        String line = "QUFB".repeat(19);
        due(1, "", "");
        due(1, "A".repeat(54), "QUFB".repeat(18));
        due(1, "A".repeat(55), "QUFB".repeat(18) + "QQ==");
        due(1, "A".repeat(56), "QUFB".repeat(18) + "QUE=");
        due(1, "A".repeat(57), line);
        due(1, "A".repeat(58), line + "\r\nQQ==");
        due(1, "A".repeat(59), line + "\r\nQUE=");
        due(1, "A".repeat(60), line + "\r\nQUFB");
        due(1, "A".repeat(113), line + "\r\n" + "QUFB".repeat(18) + "QUE=");
        due(1, "A".repeat(114), line + "\r\n" + line);
        due(1, "A".repeat(115), line + "\r\n" + line + "\r\nQQ==");
    }

    private static void equalsAtTheEnd() {
        Checks.sentence("= at the end");
        due(1, "A", "QQ==");
        due(1, "AB", "QUI=");
        due(1, "ABC", "QUJD");
        due(1, "ABCD", "QUJDRA==");
        due(1, "ABCDE", "QUJDREU=");
        due(1, "ABCDEF", "QUJDREVG");
        due(1, "\0", "AA==");
        due(1, "\u00ff", "/w==");
        due(1, "\u00ff\u00ff", "//8=");
        due(1, "\u00ff\u00ff\u00ff", "////");
    }

    private static void themselves() {
        Checks.sentence("QUOTED: bytes 33 .. 126 but = are themselves");
        for (int b = 0; b < 256; b++) {
            boolean itself = b >= 33 && b <= 126 && b != '=';
            String one = "" + (char) b;
            due(2, one, itself ? one : String.format("=%02X", b));
            due(2, "a" + one, "a" + (itself ? one : String.format("=%02X", b)));
        }
    }

    private static void blanksAtALinesEnd() {
        Checks.sentence("32 and 9 too but at a line's end");
        String[] blanks = {" ", "\t"};
        String[] quoted = {"=20", "=09"};
        for (int k = 0; k < 2; k++) {
            String b = blanks[k];
            String q = quoted[k];
            due(2, b, q);
            due(2, b + "a", b + "a");
            due(2, "a" + b + "a", "a" + b + "a");
            due(2, "a" + b, "a" + q);
            due(2, b + b, b + q);
            due(2, b + b + b, b + b + q);
            due(2, b + "\r\n", q + "\r\n");
            due(2, b + b + "\r\na", b + q + "\r\na");
            due(2, "a\r\n" + b, "a\r\n" + q);
            due(2, "a\r\n" + b + "a", "a\r\n" + b + "a");
            due(2, b + "\r", b + "=0D");
            due(2, b + "\n", b + "=0A");
            due(2, b + "\ra", b + "=0Da");
            due(2, b + "\r\r\n", b + "=0D\r\n");
            due(2, b + "\n\r\n", b + "=0A\r\n");
        }
        due(2, " \t", " =09");
        due(2, "\t ", "\t=20");
        due(2, "\u0008a\u000ba\u001fa!a", "=08a=0Ba=1Fa!a");
    }

    private static void lineEnds() {
        Checks.sentence("13 10 ends a line");
        due(2, "\r\n", "\r\n");
        due(2, "a\r\nb", "a\r\nb");
        due(2, "\r", "=0D");
        due(2, "\n", "=0A");
        due(2, "\n\r", "=0A=0D");
        due(2, "\r\r\n", "=0D\r\n");
        due(2, "\r\n\n", "\r\n=0A");
        due(2, "\r\n\r", "\r\n=0D");
        due(2, "\r\ra\n", "=0D=0Da=0A");
        due(2, "\r\n\r\n", "\r\n\r\n");
    }

    private static void twoDigits() {
        Checks.sentence("others = and two digits 0 .. 9 A .. F");
        due(2, "\0", "=00");
        due(2, "\u0009\u0009", "\t=09");
        due(2, "=", "=3D");
        due(2, "\u007f", "=7F");
        due(2, "\u0080", "=80");
        due(2, "\u0099\u009a\u009f\u00a0\u00a9\u00af", "=99=9A=9F=A0=A9=AF");
        due(2, "\u00f0\u00ff", "=F0=FF");
    }

    private static void softEnds() {
        Checks.sentence("a line gets a = before it would have more than 76 bytes with it");
        due(2, x(74), x(74));
        due(2, x(75), x(75));
        due(2, x(76), x(75) + "=\r\nx");
        due(2, x(77), x(75) + "=\r\nxx");
        due(2, x(150), x(75) + "=\r\n" + x(75));
        due(2, x(151), x(75) + "=\r\n" + x(75) + "=\r\nx");
        due(2, x(75) + "\r\n", x(75) + "\r\n");
        due(2, x(76) + "\r\n", x(75) + "=\r\nx\r\n");
        due(2, x(75) + "\r\n" + x(75), x(75) + "\r\n" + x(75));
        due(2, x(10) + "\r\n" + x(76), x(10) + "\r\n" + x(75) + "=\r\nx");
        due(2, x(76) + "\r\n" + x(76), x(75) + "=\r\nx\r\n" + x(75) + "=\r\nx");
        due(2, x(150) + "\r\n" + x(75), x(75) + "=\r\n" + x(75) + "\r\n" + x(75));
    }

    private static void softEndsOfThrees() {
        Checks.sentence("gets a = before it would have more than 76 bytes with it");
        for (int ahead = 70; ahead <= 72; ahead++) {
            due(2, x(ahead) + "=", x(ahead) + "=3D");
            due(2, x(ahead) + "\u00ff\r\n", x(ahead) + "=FF\r\n");
        }
        for (int ahead = 73; ahead <= 75; ahead++) {
            due(2, x(ahead) + "=", x(ahead) + "=\r\n=3D");
            due(2, x(ahead) + "\u00ff\r\n", x(ahead) + "=\r\n=FF\r\n");
        }
        due(2, x(72) + "=y", x(72) + "=3D=\r\ny");
        due(2, x(71) + "=y", x(71) + "=3Dy");
        due(2, x(71) + "=yz", x(71) + "=3Dy=\r\nz");
        due(2, "\0".repeat(25), "=00".repeat(25));
        due(2, "\0".repeat(26), "=00".repeat(25) + "=\r\n=00");
        due(2, "\0".repeat(50), "=00".repeat(25) + "=\r\n" + "=00".repeat(25));
        due(2, "\0".repeat(51), "=00".repeat(25) + "=\r\n" + "=00".repeat(25) + "=\r\n=00");
    }

    /** A = stands behind the blank then, so it is not at its line's end. */
    private static void softEndsAndBlanks() {
        Checks.sentence("32 and 9 too but at a line's end, 13 10 ends a line");
        due(2, x(74) + " ", x(74) + "=\r\n=20");
        due(2, x(74) + " y", x(74) + " =\r\ny");
        due(2, x(75) + " ", x(75) + "=\r\n=20");
        due(2, x(75) + " y", x(75) + "=\r\n y");
        due(2, x(73) + " ", x(73) + "=\r\n=20");
        due(2, x(72) + " ", x(72) + "=20");
        due(2, x(72) + "\t\r\n", x(72) + "=09\r\n");
        due(2, x(73) + "\t\r\n", x(73) + "=\r\n=09\r\n");
        due(2, " ".repeat(76), " ".repeat(75) + "=\r\n=20");
        due(2, " ".repeat(75), " ".repeat(74) + "=\r\n=20");
        due(2, " ".repeat(73), " ".repeat(72) + "=20");
    }

    private static void betweenLines() {
        Checks.sentence("between lines 13 10: how many bytes.");
        due(1, "A".repeat(57), "QUFB".repeat(19));
        due(1, "A".repeat(58), "QUFB".repeat(19) + "\r\nQQ==");
        due(2, "a", "a");
        due(2, "a\r\n", "a\r\n");
        due(2, "a\r\nb", "a\r\nb");
        due(2, x(75), x(75));
        due(2, x(76), x(75) + "=\r\nx");
    }

    private static void basedBeyond1500() {
        Checks.sentence("IllegalStateException: more than 1500 (the TAPE stays).");
        // 19 lines of 76 letters and 13 10 behind each are 1482, and the letters of the last line come to them
        String[] last = {"QQ==", "QUE=", "QUFB", "QUFBQQ==", "QUFBQUE=", "QUFBQUFB", "QUFBQUFBQQ==", "QUFBQUFBQUE=",
            "QUFBQUFBQUFB", "QUFBQUFBQUFBQQ==", "QUFBQUFBQUFBQUE=", "QUFBQUFBQUFBQUFB"};
        String lines = ("QUFB".repeat(19) + "\r\n").repeat(19);
        for (int more = 1; more <= 12; more++) {
            due(1, "A".repeat(1083 + more), lines + last[more - 1]);
        }
        for (int size : new int[] {1096, 1097, 1098, 1099, 1110, 1499, 1500}) {
            dueRefused(1, "A".repeat(size));
        }
    }

    private static void quotedBeyond1500() {
        Checks.sentence("more than 1500 (the TAPE stays).");
        // 19 lines of 75 bytes and = 13 10 behind each are 1482
        String lines = (x(75) + "=\r\n").repeat(19);
        due(2, x(75 * 19 + 17), lines + x(17));
        due(2, x(75 * 19 + 18), lines + x(18));
        dueRefused(2, x(75 * 19 + 19));
        dueRefused(2, x(1500));
        due(2, x(75 * 19 + 15) + "\0", lines + x(15) + "=00");
        dueRefused(2, x(75 * 19 + 16) + "\0");
        dueRefused(2, x(75 * 19 + 17) + "\0");
        due(2, x(75 * 19 + 16) + "\r\n", lines + x(16) + "\r\n");
        dueRefused(2, x(75 * 19 + 17) + "\r\n");
        dueRefused(2, x(75 * 19 + 18) + "\r\n");
        due(2, "\r\n".repeat(749), "\r\n".repeat(749));
        due(2, "\r\n".repeat(750), "\r\n".repeat(750));
        due(2, "\r\n".repeat(748) + "a\n", "\r\n".repeat(748) + "a=0A");
        dueRefused(2, "\r\n".repeat(749) + "\n");
        dueRefused(2, "\r\n".repeat(748) + "aa\n");
        dueRefused(2, "\r\n".repeat(748) + " \r\n");
        dueRefused(2, "=".repeat(1500));
    }

    private static void dueRefused(int coding, String tape) {
        MailCharacters x = Checks.holding(tape);
        String what = "code(" + coding + ") of " + tape.length();
        Checks.dueThrow(what, IllegalStateException.class, () -> x.code(coding));
        Checks.dueTape(what + ", the tape stays", x, tape);
        Checks.dueText(what + ", the text stays", x, 65533, 65, 65533);
        Checks.dueThrow(what + " once more", IllegalStateException.class, () -> x.code(coding));
        Checks.due(what + ", the tape is read yet", x.read(1), tape.length());
        Checks.due(what + ", the ready bytes come", x.end(5), 5);
        Checks.due(what + ", and are coded", x.code(1), 8);
        Checks.dueTape(what + ", and are coded", x, "UkVBRFk=");
    }

    private static void anotherCoding() {
        Checks.sentence("IllegalArgumentException: another CODING.");
        for (int coding : new int[] {-2, -1, 0, 3, 4, 5, 257, Integer.MIN_VALUE, Integer.MAX_VALUE}) {
            for (String tape : new String[] {"", "tape", x(1500)}) {
                MailCharacters x = Checks.holding(tape);
                Checks.dueThrow("code(" + coding + ")", IllegalArgumentException.class, () -> x.code(coding));
                Checks.dueHeld("code(" + coding + ")", x, tape);
            }
        }
        MailCharacters one = Checks.holding("ABC");
        Checks.due("code(1)", one.code(1), 4);
        Checks.dueHeld("code(1)", one, "QUJD");
        MailCharacters two = Checks.holding("ABC");
        Checks.due("code(2)", two.code(2), 3);
        Checks.dueHeld("code(2)", two, "ABC");
    }
}
