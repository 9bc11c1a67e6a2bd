/** The boundary cases that the document names for encoded words: Terms, ENCODED words; promise 7. */
public final class WordsEdgesTest {
    private static final int BAD = 65533;
    private static final String A = "=?utf-8?Q?a?=";
    private static final String B = "=?utf-8?B?Yg==?=";

    public static void main(String[] args) {
        theParts();
        kinds();
        names();
        starBehindTheName();
        noBytes();
        bytesThatMayStand();
        quotedBytes();
        basedBytes();
        byTheCharset();
        betweenTwo();
        allElse();
        textAndTape();
        fullTape();
        Checks.finish();
    }

    private static void due(String tape, int... want) {
        MailCharacters x = Checks.withTape(tape);
        String what = "words() of " + Checks.shown(tape);
        Checks.due(what, x.words(), want.length);
        Checks.dueText(what, x, want);
        Checks.dueTape(what, x, "");
    }

    private static void due(String tape, String want) {
        due(tape, want.codePoints().toArray());
    }

    private static void itself(String tape) {
        due(tape, tape);
    }

    private static void theParts() {
        Checks.sentence("ENCODED words in the TAPE: =?NAME?Q?BYTES?=");
        String whole = "=?cp1252?Q?!?=";
        due(whole, "!");
        for (int k = 0; k < whole.length(); k++) {
            if (whole.charAt(k) != '!') {
                itself(whole.substring(0, k) + whole.substring(k + 1));
            }
            itself(whole.substring(0, k));
            itself(whole.substring(k + 1));
            if (k > 0) {
                itself(whole.substring(0, k) + " " + whole.substring(k));
            }
        }
        itself("=?utf-8?Q?a??=");
        itself("=?utf-8??Q?a?=");
        itself("=?utf-8?Q?a?b?=");
        itself("=??utf-8?Q?a?=");
        due("=" + A, "=a");
        due("=?" + A, "=?a");
        due(A + "=", "a=");
        due(A + "?=", "a?=");
        due("=?utf-8?Q?" + A, "=?utf-8?Q?a");
        due("=?utf-8?" + A, "=?utf-8?a");
        due("=?x?Q?y?" + A, "=?x?Q?y?a");
    }

    private static void kinds() {
        Checks.sentence("or B, q, b");
        for (int b = 0; b < 256; b++) {
            String tape = "=?l1?" + (char) b + "?YWI=?=";
            if (b == 'Q' || b == 'q') {
                due(tape, "YWI=");
            } else if (b == 'B' || b == 'b') {
                due(tape, "ab");
            } else if (b < 128) {
                itself(tape);
            } else {
                due(tape, "=?l1?\ufffd?YWI=?=");
            }
        }
        itself("=?l1??YWI=?=");
        itself("=?l1?QQ?YWI=?=");
        itself("=?l1?QB?YWI=?=");
    }

    private static void names() {
        Checks.sentence("NAME: a CHARSET's");
        String[] names = {"cp367", "L1", "Latin-9", "x-CP1252", "UTF8", "utf16", "utf-16BE", "UTF-16le", "koi8R", "utf7"};
        int[][] texts = {{BAD, BAD}, {163, 193}, {163, 193}, {163, 193}, {BAD, BAD}, {0xA3C1}, {0xA3C1}, {0xC1A3},
            {1105, 1072}, {BAD, BAD}};
        for (int charset = 0; charset < 10; charset++) {
            due("=?" + names[charset] + "?Q?=A3=C1?=", texts[charset]);
            due("=?" + names[charset] + "?b?o8E?=", texts[charset]);
        }
        itself("=??Q?a?=");
        itself("=?x?Q?a?=");
        itself("=?utf-88?Q?a?=");
        itself("=?utf-?Q?a?=");
        itself("=? utf-8?Q?a?=");
        itself("=?utf-8 ?Q?a?=");
        itself("=?utf-8\n?Q?a?=");
        itself("=?4?Q?a?=");
    }

    private static void starBehindTheName() {
        Checks.sentence("(perhaps * and more bytes behind it, which count for nothing)");
        due("=?utf-8*en?Q?a?=", "a");
        due("=?utf-8*e?Q?a?=", "a");
        due("=?utf-8*?Q?a?=", "a");
        due("=?utf-8**?Q?a?=", "a");
        due("=?utf-8*en*fr?Q?a?=", "a");
        due("=?utf-8*utf-16?Q?a?=", "a");
        due("=?utf-8*=?Q?a?=", "a");
        due("=?UTF-16*en-GB?B?AGE?=", "a");
        for (int b = 0; b < 256; b++) {
            if (b != '?') {
                due("=?utf-8*" + (char) b + "?Q?a?=", "a");
            }
        }
        itself("=?*utf-8?Q?a?=");
        itself("=?*?Q?a?=");
        itself("=?x*utf-8?Q?a?=");
        itself("=?utf-8 *en?Q?a?=");
        itself("=?utf-8+en?Q?a?=");
        itself("=?utf-8)en?Q?a?=");
        itself("=?utf-8*en??Q?a?=");
        itself("=?utf-8*e?n?Q?a?=");
        itself("=?utf-8*enQ?a?=");
    }

    private static void noBytes() {
        Checks.sentence("BYTES (perhaps none)");
        due("=?utf-8?Q??=", "");
        due("=?utf-8?B??=", "");
        due("=?utf-16?B??=", "");
        due("x=?utf-8?Q??=y", "xy");
        due("=?utf-8?Q??==?utf-8?Q??=", "");
        due("=?utf-8?Q??= =?utf-8?Q??=", "");
        due("=?utf-8?Q?a?=", "a");
        itself("=?utf-8?Q?=");
        itself("=?utf-8?Q???=");
    }

    private static void bytesThatMayStand() {
        Checks.sentence("BYTES (perhaps none): but ? and 32 and 9");
        for (int b = 0; b < 256; b++) {
            char c = (char) b;
            boolean may = b != '?' && b != 32 && b != 9;
            String quoted = "=?l1?Q?x" + c + "y?=";
            String based = "=?l1?B?Y" + c + "Q?=";
            if (!may) {
                itself(quoted);
                itself(based);
                itself("=?l1?Q?" + c + "?=");
                itself("=?l1?Q?x" + c + "?=");
            } else {
                due(quoted, b == '_' ? "x y" : "x" + c + "y");
                due("=?l1?Q?" + c + "?=", b == '_' ? " " : "" + c);
                if ("ABCDEFGHIJKLMNOPQRSTUVWXYZabcdefghijklmnopqrstuvwxyz0123456789+/=".indexOf(c) < 0) {
                    due(based, "a");
                }
            }
        }
        due("=?l1?Q?a\r\nb?=", "a\r\nb");
        itself("=?l1?Q?a\r\n b?=");
    }

    private static void quotedBytes() {
        Checks.sentence("of Q _ is 32, = and two hexadecimal digits that byte");
        due("=?l1?Q?_?=", " ");
        due("=?l1?Q?^`?=", "^`");
        due("=?l1?Q?_a__b_?=", " a  b ");
        due("=?l1?Q?=5F?=", "_");
        for (int b = 0; b < 256; b++) {
            due(String.format("=?l1?Q?=%02X?=", b), b);
            due(String.format("=?l1?Q?=%02x?=", b), b);
        }
        due("=?l1?Q?=?=", "=");
        due("=?l1?Q?=4?=", "=4");
        due("=?l1?Q?=41?=", "A");
        due("=?l1?Q?=411?=", "A1");
        due("=?l1?Q?==41?=", "=A");
        due("=?l1?Q?=4=41?=", "=4A");
        due("=?l1?Q?=4_1?=", "=4 1");
        due("=?l1?Q?=_1?=", "= 1");
        due("=?l1?Q?=/0=:0=@A=GA=`a=ga?=", "=/0=:0=@A=GA=`a=ga");
        due("=?l1?Q?=0/=0:=A@=AG=a`=ag?=", "=0/=0:=A@=AG=a`=ag");
        due("=?l1?Q?=00=99=AA=FF=aa=ff?=", 0, 153, 170, 255, 170, 255);
        due("=?l1?Q?a=\nb?=", "a=\nb");
        due("=?l1?Q?a\nb?=", "a\nb");
    }

    private static void basedBytes() {
        Checks.sentence("of B BASE64");
        due("=?l1?B?/?=", "");
        due("=?l1?B?//?=", "\u00ff");
        due("=?l1?B?///?=", "\u00ff\u00ff");
        due("=?l1?B?////?=", "\u00ff\u00ff\u00ff");
        due("=?l1?B?YWI=?=", "ab");
        due("=?l1?B?YQ==?=", "a");
        due("=?l1?B?YQ===?=", "a");
        due("=?l1?B?=YQ?=", "");
        due("=?l1?B?Y=Q?=", "");
        due("=?l1?B?YWI=YWI=?=", "ab");
        due("=?l1?B?_Y_Q_?=", "a");
        due("=?l1?B?\nY\r\nQ?=", "a");
        // what one word leaves over does not come to the next
        due("=?l1?B?Y?= =?l1?B?Q?=", "");
        due("=?l1?B?YW?= =?l1?B?I?=", "a");
    }

    private static void byTheCharset() {
        Checks.sentence("then by the CHARSET");
        due("=?utf-8?Q?=C3=A9?=", 233);
        due("=?utf-8?Q?=C3?= =?utf-8?Q?=A9?=", BAD, BAD);
        due("=?utf-8?Q?=C3?==?utf-8?Q?=A9?=", BAD, BAD);
        due("=?utf-16be?B?2ADcAA?=", 65536);
        due("=?utf-16be?B?2AA?= =?utf-16be?B?3AA?=", BAD, BAD);
        due("=?utf-16be?B?2A?= =?utf-16be?B?AA?=", BAD, BAD);
        due("=?utf-16?B?//5hAA?= =?utf-16?B?AGE?=", "aa");
        due("=?utf-16?B?/v8AYQ?= =?utf-16?B?YQA?=", 97, 24832);
        due("=?utf-7?Q?+AGE-?=", "a");
        due("=?utf-7?Q?+?= =?utf-7?Q?-?=", "-");
        due("=?utf-7?Q?+AGE?= =?utf-7?Q?AGE-?=", "aAGE-");
        due("=?utf-7?B?K0FHRS0?=", "a");
    }

    private static void betweenTwo() {
        Checks.sentence("Between two such ones bytes 32, 9, 13, 10 alone are nothing.");
        due(A + B, "ab");
        for (int b = 0; b < 128; b++) {
            boolean blank = b == 32 || b == 9 || b == 13 || b == 10;
            String between = "" + (char) b;
            due(A + between + B, blank ? "ab" : "a" + between + "b");
            due(A + " " + between + B, blank ? "ab" : "a " + between + "b");
            due(A + between + "\r\n" + B, blank ? "ab" : "a" + between + "\r\nb");
            due(A + between, "a" + between);
            due(between + B, between + "b");
        }
        due(A + "\u00a0" + B, 'a', BAD, 'b');
        due(A + " \t\r\n\n\r \t" + B, "ab");
        due(A + " " + B + " ", "ab ");
        due(" " + A + " " + B, " ab");
        due(A + " " + B + " " + A, "aba");
        due(A + " " + B + " x " + A + " " + B, "ab x ab");
        due(A + " =?x?Q?y?= " + B, "a =?x?Q?y?= b");
        due(A + " =?utf-8?Q?y z?= " + B, "a =?utf-8?Q?y z?= b");
        due(A + " =?utf-8?Q??= " + B, "ab");
        due(A + " ".repeat(1400) + B, "ab");
        due(A + " ".repeat(1400) + "x", "a" + " ".repeat(1400) + "x");
    }

    private static void allElse() {
        Checks.sentence("All else is UTF8.");
        due("", "");
        due("=41_+AGE-", "=41_+AGE-");
        due("\u00c3\u00a9" + A + "\u00e2\u0082\u00ac", 233, 'a', 8364);
        due("\u00c3" + A + "\u00a9", BAD, 'a', BAD);
        due("\u00c3=?utf-8?Q??=\u00a9", BAD, BAD);
        due("\u00f0\u009f\u0098" + A, BAD, 'a');
        due("=?utf-9?Q?\u00c3\u00a9?=", "=?utf-9?Q?\u00e9?=");
        due("=?utf-8?Q?=C3?=\u00a9", BAD, BAD);
        due("\u00f4\u008f\u00bf\u00bf", 1114111);
        due("\u00f4\u0090\u0080\u0080", BAD, BAD, BAD, BAD);
    }

    private static void textAndTape() {
        Checks.sentence("The TEXT is the TAPE with its ENCODED words read (the TAPE is empty then): how many characters.");
        MailCharacters x = Checks.withText("before");
        Checks.due("words() of no tape", x.words(), 0);
        Checks.dueText("words() of no tape", x);
        Checks.add(x, A + "!");
        Checks.due("words()", x.words(), 2);
        Checks.dueText("words()", x, 'a', '!');
        Checks.dueTape("words()", x, "");
        x.feed(0x62000000, 0, 0, 0, 0);
        Checks.due("words() once more", x.words(), 0);
        Checks.due("the ready bytes stay", x.end(1), 1);
        Checks.dueTape("the ready bytes", x, "b");
    }

    private static void fullTape() {
        Checks.sentence("There is a TAPE of bytes, at most 1500");
        due("x".repeat(1487) + A, "x".repeat(1487) + "a");
        due("=?l1?Q?" + "b".repeat(1490) + "?=", "b".repeat(1490));
        due("=?l1?Q?" + "b".repeat(1491) + "?=", "b".repeat(1491));
        itself("=?l1?Q?" + "b".repeat(1492) + "?");
        itself("=?l1?Q?" + "b".repeat(1493));
        due("=?l1?B?" + "QUJD".repeat(372) + "QU?=", "ABC".repeat(372) + "A");
        due("=?l1*" + "b".repeat(1490) + "?Q??=", "");
        itself("=?l1*" + "b".repeat(1491) + "?Q??");
        itself("=?".repeat(750));
        itself("=?l1?Q?".repeat(214));
        due("=?l1?Q??=".repeat(166), "");
        due("=?l1?Q?a?=".repeat(150), "a".repeat(150));
    }
}
