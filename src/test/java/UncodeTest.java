/** Promise 5: uncode. */
public final class UncodeTest {
    public static void main(String[] args) {
        wrongCodings();
        plain();
        base64();
        quoted();
        quotedBeyondTheTape();
        hexed();
        textStays();
        Checks.finish();
    }

    private static void due(int coding, String tape, String want) {
        MailCharacters x = Checks.withTape(tape);
        String what = "uncode(" + coding + ") of " + Checks.shown(tape);
        Checks.due(what + ", how many", x.uncode(coding), want.length());
        Checks.due(what, Checks.tapeString(x), want);
    }

    private static void wrongCodings() {
        int[] wrong = {-1, 4, 5, Integer.MIN_VALUE, Integer.MAX_VALUE};
        for (int coding : wrong) {
            MailCharacters x = Checks.withTape("QUJD");
            Checks.dueThrow("uncode(" + coding + ")", IllegalArgumentException.class, () -> x.uncode(coding));
            Checks.due("the tape stays", Checks.tapeString(x), "QUJD");
        }
    }

    private static void plain() {
        due(0, "", "");
        due(0, "=41 \r\n\u00ff\0", "=41 \r\n\u00ff\0");
    }

    private static void base64() {
        due(1, "QUJD", "ABC");
        due(1, "QUI=", "AB");
        due(1, "QUI", "AB");
        due(1, "QQ==", "A");
        due(1, "QQ", "A");
        due(1, "Q", "");
        due(1, "QUJDR", "ABC");
        due(1, "QUJDRA", "ABCD");
        due(1, "QUJDREU", "ABCDE");
        due(1, "=QUJD", "");
        due(1, "QUJD=REVG", "ABC");
        due(1, "QUJDR=EVG", "ABC");
        due(1, "Q U\r\nJ\tD-_.\u00ff\0R?E*V@G[`{", "ABCDEF");
        due(1, "++//", "\u00fb\u00ef\u00ff");
        due(1, "AAAA", "\0\0\0");
        due(1, "az09", "\u006b\u003d\u003d");
        due(1, "QR==", "A");
        due(1, "", "");
    }

    private static void quoted() {
        due(2, "", "");
        due(2, "abc", "abc");
        due(2, "a=41b", "aAb");
        due(2, "=c3=A9=C3=a9", "\u00c3\u00a9\u00c3\u00a9");
        due(2, "=00=FF=ff=7f", "\0\u00ff\u00ff\u007f");
        due(2, "=4", "=4");
        due(2, "=4G=G4=zz=@1=:1=`1=g1=/1", "=4G=G4=zz=@1=:1=`1=g1=/1");
        due(2, "==41", "=A");
        due(2, "=4=41", "=4A");
        due(2, "a\nb", "a\r\nb");
        due(2, "a\r\nb", "a\r\nb");
        due(2, "a\n", "a\r\n");
        due(2, "a\r\n", "a\r\n");
        due(2, "\n", "\r\n");
        due(2, "\r\n\n\r\n", "\r\n\r\n\r\n");
        due(2, "a \t \nb\t \r\nc \t", "a\r\nb\r\nc");
        due(2, " \t\n \r\n", "\r\n\r\n");
        due(2, " \ta b", " \ta b");
        due(2, "a=\nb", "ab");
        due(2, "a=\r\nb", "ab");
        due(2, "a=  \t\r\nb", "ab");
        due(2, "a =\nb", "a b");
        due(2, "a= ", "a");
        due(2, "a=", "a");
        due(2, "a=\n", "a");
        due(2, "=\n=\r\n=", "");
        due(2, "a==\nb", "a=b");
        due(2, "a=4=\nb", "a=4b");
        due(2, "a=3D\nb", "a=\r\nb");
        due(2, "a=20\nb", "a \r\nb");
        due(2, "=4\n1", "=4\r\n1");
        due(2, "= x", "= x");
        due(2, "a\rb", "a\rb");
        due(2, "a\r", "a\r");
        due(2, "a \r", "a \r");
        due(2, "a \r\r\nb", "a \r\r\nb");
        due(2, "a=\r\r\nb", "a=\r\r\nb");
        due(2, "_", "_");
        due(2, "a=0D=0Ab", "a\r\nb");
    }

    private static void quotedBeyondTheTape() {
        due(2, "\n".repeat(750), "\r\n".repeat(750));
        due(2, "\n".repeat(751), "\r\n".repeat(750));
        due(2, "\n".repeat(1500), "\r\n".repeat(750));
        due(2, "a" + "\n".repeat(750), "a" + "\r\n".repeat(749) + "\r");
        due(2, "x".repeat(1500), "x".repeat(1500));
        due(2, "x".repeat(1499) + "\n", "x".repeat(1499) + "\r");
    }

    private static void hexed() {
        due(3, "begin 644 cat\n#0V%T\n`\nend\n", "Cat");
        due(3, "begin x\r\n#0V%T\r\n`\r\nend\r\n", "Cat");
        due(3, "#0V%T\n", "");
        due(3, "", "");
        due(3, "begin", "");
        due(3, "begin \n#0V%T", "");
        due(3, "begin \r\n#0V%T", "");
        due(3, "begin x", "");
        due(3, "begin  \n#0V%T", "Cat");
        due(3, "Begin x\n#0V%T", "");
        due(3, " begin x\n#0V%T", "");
        due(3, "beginx y\n#0V%T", "");
        due(3, "\n\nend\n`\nbegin x\n#0V%T", "Cat");
        due(3, "begin x\n#0V%T\n\n#0V%T", "Cat");
        due(3, "begin x\n#0V%T\n\r\n#0V%T", "Cat");
        due(3, "begin x\n#0V%T\nend\n#0V%T", "Cat");
        due(3, "begin x\n#0V%T\n`\n#0V%T", "Cat");
        due(3, "begin x\n#0V%T\n abc\n#0V%T", "Cat");
        due(3, "begin x\n\"0V%T\n!0V%T", "CaC");
        due(3, "begin x\n&0V%T", "Cat");
        due(3, "begin x\n$0V%T9", "Catd");
        due(3, "begin x\n%0V%T9", "Catd\0");
        due(3, "begin x\n_0V%T9", "Catd\0\0");
        due(3, "begin x\n#0", "@\0\0");
        due(3, "begin x\n#", "");
        due(3, "begin x\n#\n#0V%T", "Cat");
        due(3, "begin x\n#0V%T0V%T", "Cat");
        due(3, "begin x\n#\u0070\u0096\u00a5\u0094", "Cat");
        due(3, "begin x\nc0V%T", "Cat");
        due(3, "begin x\n\u00030V%T", "Cat");
        due(3, "begin x\n#````\n#    ", "\0\0\0\0\0\0");
        due(3, "begin x\nend \n", "8@\0");
        due(3, "begin x\nendx", "8F\0");
        due(3, "begin x\n#0V%\r", "Cam");
        due(3, "begin x\n#0V%T\nbegin y\n", "Cat\u0014r");
    }

    private static void textStays() {
        MailCharacters x = Checks.withText("abc");
        Checks.add(x, "QUJD");
        x.uncode(1);
        Checks.due("the text stays", Checks.textString(x), "abc");
        Checks.due("and the tape goes on", x.end(1), 4);
        Checks.due("a second uncode", x.uncode(2), 4);
    }
}
