/** The boundary cases that the document names for the codings of bytes: Terms, CODINGS; promise 5. */
public final class UncodeEdgesTest {
    private static final String LETTERS = "ABCDEFGHIJKLMNOPQRSTUVWXYZabcdefghijklmnopqrstuvwxyz0123456789+/";

    public static void main(String[] args) {
        plain();
        letters();
        equalsEndsAll();
        otherBytes();
        fours();
        leftLetters();
        lines();
        blanksAtTheEnd();
        equalsAtTheEnd();
        hexadecimalDigits();
        anotherEquals();
        betweenLines();
        begin();
        howManyBytes();
        bytesThatAreNotThere();
        firstN();
        endOfHexed();
        noSuchCoding();
        emptyTape();
        Checks.finish();
    }

    private static void due(int coding, String tape, String want) {
        MailCharacters x = Checks.withTape(tape);
        String what = "uncode(" + coding + ") of " + Checks.shown(tape);
        Checks.due(what, x.uncode(coding), want.length());
        Checks.dueTape(what, x, want);
    }

    private static void plain() {
        Checks.sentence("0 PLAIN: as they are.");
        due(0, "", "");
        for (int b = 0; b < 256; b++) {
            due(0, "" + (char) b, "" + (char) b);
        }
        due(0, "=41=\r\n \n", "=41=\r\n \n");
        due(0, "x".repeat(1500), "x".repeat(1500));
    }

    private static void letters() {
        Checks.sentence("A .. Z a .. z 0 .. 9 + / are 0 .. 63");
        for (int value = 0; value < 64; value++) {
            char letter = LETTERS.charAt(value);
            due(1, letter + "A", "" + (char) (value * 4));
            due(1, "A" + letter, "" + (char) (value / 16));
            due(1, "AAA" + letter, "\0\0" + (char) value);
        }
        for (char beside : "@[`{/:*,.".toCharArray()) {
            boolean isLetter = LETTERS.indexOf(beside) >= 0;
            due(1, "AA" + beside, isLetter ? "\0\u000f" : "\0");
        }
    }

    private static void equalsEndsAll() {
        Checks.sentence("an = ends all");
        String[] made = {"", "", "A", "AB", "ABC", "ABC", "ABCD", "ABCDE", "ABCDEF"};
        for (int k = 0; k <= 8; k++) {
            due(1, "QUJDREVG".substring(0, k) + "=" + "QUJDREVG".substring(k), made[k]);
            due(1, "QUJDREVG".substring(0, k) + "==QUJD", made[k]);
            due(1, "QUJDREVG".substring(0, k), made[k]);
        }
        due(1, "=", "");
        due(1, "QUJD<REVG", "ABCDEF");
        due(1, "QUJD>REVG", "ABCDEF");
    }

    private static void otherBytes() {
        Checks.sentence("other bytes are nothing");
        for (int b = 0; b < 256; b++) {
            if (b != '=' && LETTERS.indexOf(b) < 0) {
                due(1, "" + (char) b, "");
                due(1, (char) b + "QU" + (char) b + (char) b + "JD" + (char) b, "ABC");
            }
        }
        due(1, "-_".repeat(750), "");
    }

    private static void fours() {
        Checks.sentence("each four are three bytes");
        due(1, "", "");
        due(1, "QUJD", "ABC");
        due(1, "QUJDREVG", "ABCDEF");
        due(1, "////", "\u00ff\u00ff\u00ff");
        due(1, "QUJD".repeat(374), "ABC".repeat(374));
        due(1, "QUJD".repeat(375), "ABC".repeat(375));
    }

    private static void leftLetters() {
        Checks.sentence("at the end three are two bytes, two are one, one is nothing");
        due(1, "/", "");
        due(1, "//", "\u00ff");
        due(1, "///", "\u00ff\u00ff");
        due(1, "QUJD/", "ABC");
        due(1, "QUJD//", "ABC\u00ff");
        due(1, "QUJD///", "ABC\u00ff\u00ff");
        due(1, "QUJD////", "ABC\u00ff\u00ff\u00ff");
        due(1, "QUJD".repeat(374) + "/", "ABC".repeat(374));
        due(1, "QUJD".repeat(374) + "//", "ABC".repeat(374) + "\u00ff");
        due(1, "QUJD".repeat(374) + "///", "ABC".repeat(374) + "\u00ff\u00ff");
    }

    private static void lines() {
        Checks.sentence("(a 10 ends a line; a 13 just ahead of it is no part of it)");
        due(2, "a\nb", "a\r\nb");
        due(2, "a\r\nb", "a\r\nb");
        due(2, "a\r\r\nb", "a\r\r\nb");
        due(2, "a\rb", "a\rb");
        due(2, "a\r", "a\r");
        due(2, "\r", "\r");
        due(2, "\n", "\r\n");
        due(2, "\r\n", "\r\n");
        due(2, "\r\r\n", "\r\r\n");
        due(2, "a\r \nb", "a\r\r\nb");
        due(2, "\n\r", "\r\n\r");
        for (int b = 0; b < 32; b++) {
            if (b != 9 && b != 10 && b != 13) {
                due(2, "a" + (char) b + "\nb", "a" + (char) b + "\r\nb");
                due(2, "a=" + (char) b + "b", "a=" + (char) b + "b");
            }
        }
    }

    private static void blanksAtTheEnd() {
        Checks.sentence("bytes 32 and 9 at a line's end are nothing");
        for (int b = 0; b < 256; b++) {
            if (b == 10 || b == 13 || b == '=') {
                continue;
            }
            String kept = b == 32 || b == 9 ? "" : "" + (char) b;
            due(2, "a" + (char) b, "a" + kept);
            due(2, "a" + (char) b + "\nb", "a" + kept + "\r\nb");
            due(2, "a" + (char) b + "\r\nb", "a" + kept + "\r\nb");
            due(2, (char) b + "a", (char) b + "a");
        }
        due(2, "a \t \t\n", "a\r\n");
        due(2, " \t", "");
        due(2, " \t\n\t \r\n", "\r\n\r\n");
        due(2, "a b\t c", "a b\t c");
        due(2, "a \r", "a \r");
        due(2, "a \r\r\n", "a \r\r\n");
        due(2, "a=20\nb=09", "a \r\nb\t");
        due(2, "a=20 \n", "a \r\n");
        due(2, " ".repeat(1500), "");
        due(2, " ".repeat(1499) + "x", " ".repeat(1499) + "x");
    }

    private static void equalsAtTheEnd() {
        Checks.sentence("a = at its end then takes the line's end away");
        due(2, "a=\nb", "ab");
        due(2, "a=\r\nb", "ab");
        due(2, "a= \t\nb", "ab");
        due(2, "a=\t \r\nb", "ab");
        due(2, "a =\nb", "a b");
        due(2, "a\t= \nb", "a\tb");
        due(2, "=\nb", "b");
        due(2, "=\n=\n=\nb", "b");
        due(2, "a==\nb", "a=b");
        due(2, "a===\nb", "a==b");
        due(2, "a=3D\nb", "a=\r\nb");
        due(2, "a=\r\r\nb", "a=\r\r\nb");
        due(2, "a=\r", "a=\r");
        due(2, "a=", "a");
        due(2, "a= \t", "a");
        due(2, "=", "");
        due(2, "x".repeat(1499) + "=", "x".repeat(1499));
        due(2, "a=\n41", "a41");
        due(2, "a=4=\n1", "a=41");
        due(2, "=\n\nb", "\r\nb");
        due(2, "\n=\nb", "\r\nb");
    }

    private static void hexadecimalDigits() {
        Checks.sentence("= and two hexadecimal digits are that byte");
        for (int b = 0; b < 256; b++) {
            due(2, String.format("=%02X", b) + "!", (char) b + "!");
            due(2, String.format("=%02x", b) + "!", (char) b + "!");
            if (b != 10) {
                int digit = b < 128 ? Character.digit(b, 16) : -1;
                due(2, "=" + (char) b + "1!", digit < 0 ? "=" + (char) b + "1!" : (char) (digit * 16 + 1) + "!");
                due(2, "=1" + (char) b + "!", digit < 0 ? "=1" + (char) b + "!" : (char) (16 + digit) + "!");
            }
        }
        due(2, "=aF=Af", "\u00af\u00af");
        due(2, "=411", "A1");
        due(2, "x".repeat(1497) + "=41", "x".repeat(1497) + "A");
    }

    private static void anotherEquals() {
        Checks.sentence("another = is itself");
        due(2, "=4", "=4");
        due(2, "=\0", "=\0");
        due(2, "=4\n1", "=4\r\n1");
        due(2, "=4 \n1", "=4\r\n1");
        due(2, "=4\r\n1", "=4\r\n1");
        due(2, "= 41", "= 41");
        due(2, "=4 1", "=4 1");
        due(2, "==41", "=A");
        due(2, "=4=41", "=4A");
        due(2, "==x", "==x");
        due(2, "=x=", "=x");
        due(2, "=-1", "=-1");
        due(2, "=+1", "=+1");
        due(2, "=0x", "=0x");
    }

    private static void betweenLines() {
        Checks.sentence("between lines 13 10 (behind the last line only if a 10 ended it, and no =)");
        due(2, "a\nb", "a\r\nb");
        due(2, "a\nb\n", "a\r\nb\r\n");
        due(2, "a\nb\r\n", "a\r\nb\r\n");
        due(2, "a\nb\r", "a\r\nb\r");
        due(2, "a\nb=\n", "a\r\nb");
        due(2, "a\nb=\r\n", "a\r\nb");
        due(2, "a\nb= \n", "a\r\nb");
        due(2, "a\nb=", "a\r\nb");
        due(2, "a\n=", "a\r\n");
        due(2, "a\n ", "a\r\n");
        due(2, "a\n\n", "a\r\n\r\n");
        due(2, "a\n\n=", "a\r\n\r\n");
        due(2, "a=\n\n", "a\r\n");
        due(2, "a=3D\n", "a=\r\n");
    }

    private static void begin() {
        Checks.sentence("a line that is \"begin \" and at least one more byte begins it, lines ahead of that are nothing");
        for (String start : new String[] {"begin x", "begin  ", "begin \t", "begin 644 cat.txt", "begin begin ",
            "begin \0", "begin \u00ff", "begin \r\r", "x\nbegin x", "\n\nbegin x", "end\nbegin x", "`\nbegin x",
            "#0V%T\nbegin x", "begin \nbegin x", "begin\nbegin x"}) {
            due(3, start + "\n#0V%T", "Cat");
            due(3, start + "\r\n#0V%T\r\n", "Cat");
        }
        for (String start : new String[] {"", "begin ", "begin", "beginx", "begin\tx", "Begin x", "BEGIN x", " begin x",
            "xbegin x", "begi n x", "begin\rx", "egin x", "begin"}) {
            due(3, start + "\n#0V%T", "");
            due(3, start + "\r\n#0V%T\r\n", "");
        }
        due(3, "begin x", "");
        due(3, "begin x\n", "");
        due(3, "begin x\r", "");
        due(3, "#0V%T", "");
        due(3, "begin \n", "");
        due(3, "", "");
        // once begun, a second such line is one like others: N is 2, and the values 5 7 9 14 make 20 114 78
        due(3, "begin x\nbegin x\n#0V%T", "\u0014rCat");
    }

    private static void howManyBytes() {
        Checks.sentence("the first byte less 32, modulo 64, says how many bytes N it has");
        for (int b = 0; b < 256; b++) {
            int n = Math.floorMod(b - 32, 64);
            if (b != 10) {
                due(3, "begin x\n" + (char) b + "0".repeat(84), hexed(16, 84).substring(0, n));
            }
        }
        for (int b = 0; b < 256; b++) {
            if (b != 10) {
                int value = Math.floorMod(b - 32, 64);
                due(3, "begin x\n!" + (char) b + "   ", "" + (char) (value * 4));
                due(3, "begin x\n#   " + (char) b + "!", "\0\0" + (char) value);
            }
        }
    }

    /** What as many of one value make, four by four. */
    private static String hexed(int value, int values) {
        StringBuilder bits = new StringBuilder();
        for (int k = 0; k < values; k++) {
            bits.append(String.format("%6s", Integer.toBinaryString(value)).replace(' ', '0'));
        }
        StringBuilder made = new StringBuilder();
        for (int k = 0; k + 8 <= bits.length(); k += 8) {
            made.append((char) Integer.parseInt(bits.substring(k, k + 8), 2));
        }
        return made.toString();
    }

    private static void bytesThatAreNotThere() {
        Checks.sentence("(those that are not there 0)");
        due(3, "begin x\n#_", "\u00fc\0\0");
        due(3, "begin x\n#__", "\u00ff\u00f0\0");
        due(3, "begin x\n#___", "\u00ff\u00ff\u00c0");
        due(3, "begin x\n#____", "\u00ff\u00ff\u00ff");
        due(3, "begin x\n&_____", "\u00ff\u00ff\u00ff\u00fc\0\0");
        due(3, "begin x\n#_\n#_\r\n", "\u00fc\0\0\u00fc\0\0");
        due(3, "begin x\n#_\r\n", "\u00fc\0\0");
        // behind the last line a 13 alone is a byte of it
        due(3, "begin x\n#_\r", "\u00fe\u00d0\0");
    }

    private static void firstN() {
        Checks.sentence("the first N of these, as far as there are bytes for them (three for four, or part of four)");
        String all = "\u00ff\u00ff\u00ff\u00ff\u00ff\u00ff";
        for (int n = 1; n <= 63; n++) {
            String line = "begin x\n" + (char) (32 + n);
            due(3, line, "");
            due(3, line + "\n#0V%T", "Cat");
            due(3, line + "____", all.substring(0, Math.min(n, 3)));
            due(3, line + "________", all.substring(0, Math.min(n, 6)));
            due(3, line + "_", "\u00fc\0\0".substring(0, Math.min(n, 3)));
            due(3, line + "_____", "\u00ff\u00ff\u00ff\u00fc\0\0".substring(0, Math.min(n, 6)));
            due(3, line + "____\n#0V%T", all.substring(0, Math.min(n, 3)) + "Cat");
        }
        due(3, "begin x\n_" + "_".repeat(83), "\u00ff".repeat(62) + "\u00c0");
        due(3, "begin x\n_" + "_".repeat(84), "\u00ff".repeat(63));
        due(3, "begin x\n_" + "_".repeat(88), "\u00ff".repeat(63));
    }

    private static void endOfHexed() {
        Checks.sentence("a line with N 0, or of nothing, or \"end\", ends all");
        for (String end : new String[] {" ", "`", "\u00a0", "\u00e0", " abc", "`____", "", "end"}) {
            due(3, "begin x\n#0V%T\n" + end + "\n#0V%T", "Cat");
            due(3, "begin x\r\n#0V%T\r\n" + end + "\r\n#0V%T", "Cat");
            due(3, "begin x\n" + end + "\n#0V%T", "");
            due(3, "begin x\n#0V%T\n" + end, "Cat");
            due(3, "begin x\n" + end + "\nbegin y\n#0V%T", "");
        }
        due(3, "begin x\n\u001f\n#0V%T", "Cat");
        due(3, "begin x\n!\n#0V%T", "Cat");
        due(3, "begin x\n_\n#0V%T", "Cat");
        due(3, "begin x\na\n#0V%T", "Cat");
        // a 13 that is left is the line: N is 45, and no byte is there for them
        due(3, "begin x\n\r\r\n#0V%T", "Cat");
        // as other lines: N is 5 (37 for E), and n 14, d 4, D 36 make bytes
        due(3, "begin x\nen\n#0V%T", "8\0\0Cat");
        due(3, "begin x\nEnd\n#0V%T", "8@\0Cat");
        due(3, "begin x\nenD\n#0V%T", ":@\0Cat");
        due(3, "begin x\nend \n#0V%T", "8@\0Cat");
        due(3, "begin x\nendx\n#0V%T", "8F\0Cat");
    }

    private static void noSuchCoding() {
        Checks.sentence("IllegalArgumentException: no such CODING.");
        for (int coding : new int[] {-2, -1, 4, 5, 256, Integer.MIN_VALUE, Integer.MAX_VALUE}) {
            for (String tape : new String[] {"", "QUJD", "x".repeat(1500)}) {
                MailCharacters x = Checks.holding(tape);
                Checks.dueThrow("uncode(" + coding + ")", IllegalArgumentException.class, () -> x.uncode(coding));
                Checks.dueHeld("uncode(" + coding + ")", x, tape);
            }
        }
        for (int coding = 0; coding < 4; coding++) {
            MailCharacters x = Checks.holding("QUJD");
            Checks.due("uncode(" + coding + ")", x.uncode(coding), coding == 1 ? 3 : coding == 3 ? 0 : 4);
            Checks.dueHeld("uncode(" + coding + ")", x, coding == 1 ? "ABC" : coding == 3 ? "" : "QUJD");
        }
    }

    private static void emptyTape() {
        Checks.sentence("The TAPE becomes what it is by a CODING: how many bytes.");
        for (int coding = 0; coding < 4; coding++) {
            due(coding, "", "");
        }
        due(1, "x".repeat(1500), "\u00c7\u001c\u0071".repeat(375));
        due(2, "=41".repeat(500), "A".repeat(500));
        due(3, "begin x\n" + "#0V%T\n".repeat(248) + "#0V%", "Cat".repeat(248) + "Ca@");
    }
}
