/** Promise 7: words. */
public final class WordsTest {
    private static final String BAD = "\ufffd";

    public static void main(String[] args) {
        ordinary();
        names();
        quotedBytes();
        basedBytes();
        betweenWords();
        noWords();
        allElseIsUtf8();
        eachWordAlone();
        state();
        longTape();
        Checks.finish();
    }

    private static void due(String tape, String want) {
        MailCharacters x = Checks.withTape(tape);
        String what = "words() of " + Checks.shown(tape);
        Checks.due(what + ", how many", x.words(), want.codePointCount(0, want.length()));
        Checks.due(what, Checks.textString(x), want);
        Checks.due(what + ", tape", x.count(0), 0);
    }

    private static void itself(String tape) {
        due(tape, tape);
    }

    private static void ordinary() {
        due("", "");
        due("plain text", "plain text");
        due("=?utf-8?Q?a?=", "a");
        due("=?utf-8?q?a?=", "a");
        due("=?utf-8?B?YQ==?=", "a");
        due("=?utf-8?b?YQ?=", "a");
        due("x=?utf-8?Q?a?=y", "xay");
        due("Re: =?iso-8859-1?Q?caf=E9?= now", "Re: caf\u00e9 now");
        due("=?utf-8?Q?=F0=9F=98=80?=", "\ud83d\ude00");
    }

    private static void names() {
        due("=?UTF8?Q?=C3=A9?=", "\u00e9");
        due("=?us-ascii?Q?=C3a?=", BAD + "a");
        due("=?l1?Q?=A4?=", "\u00a4");
        due("=?Latin9?Q?=A4?=", "\u20ac");
        due("=?cp1252?Q?=80?=", "\u20ac");
        due("=?utf-16?B?//5hAA?=", "a");
        due("=?utf-16?B?/v8AYQ?=", "a");
        due("=?utf-16be?B?AGE=?=", "a");
        due("=?utf-16le?B?YQA=?=", "a");
        due("=?KOI8-R?Q?=C1?=", "\u0430");
        due("=?utf-7?Q?+AOk-?=", "\u00e9");
        due("=?utf-8*en?Q?a?=", "a");
        due("=?utf-8*?Q?a?=", "a");
        due("=?utf-8*en*x?Q?a?=", "a");
        due("=?utf-8*utf-16?Q?a?=", "a");
        due("=?utf-8* \t\u00ff?Q?a?=", "a");
        itself("=?*en?Q?a?=");
        itself("=?x*utf-8?Q?a?=");
        itself("=??Q?a?=");
        itself("=?utf-8 ?Q?a?=");
        itself("=? utf-8?Q?a?=");
        itself("=?utf-9?Q?a?=");
    }

    private static void quotedBytes() {
        due("=?utf-8?Q??=", "");
        due("=?utf-8?Q?_a_?=", " a ");
        due("=?utf-8?Q?=5F=5f=20=3D=3F?=", "__ =?");
        due("=?utf-8?Q?=?=", "=");
        due("=?utf-8?Q?==?=", "==");
        due("=?utf-8?Q?=4?=", "=4");
        due("=?utf-8?Q?=4g=41?=", "=4gA");
        due("=?utf-8?Q?a\r\nb?=", "a\r\nb");
        due("=?utf-8?Q?a=\nb?=", "a=\nb");
        due("=?utf-8?Q?\u00c3\u00a9?=", "\u00e9");
    }

    private static void basedBytes() {
        due("=?utf-8?B??=", "");
        due("=?utf-8?B?Y?=", "");
        due("=?utf-8?B?YWI=YWI=?=", "ab");
        due("=?utf-8?B?Y\r\nW*I?=", "ab");
        due("=?utf-8?B?_YQ?=", "a");
    }

    private static void betweenWords() {
        String a = "=?utf-8?Q?a?=";
        String b = "=?utf-8?B?Yg?=";
        due(a + b, "ab");
        due(a + " " + b, "ab");
        due(a + " \t\r\n " + b, "ab");
        due(a + "\n" + b + " " + a, "aba");
        due(a + " x " + b, "a x b");
        due(a + " \u000b" + b, "a \u000bb");
        due(" " + a + " ", " a ");
        due("\r\n" + a + "\t" + b + "\r\n", "\r\nab\r\n");
        due(a + " =?x?Q?c?= " + b, "a =?x?Q?c?= b");
        due(a + " ", "a ");
        due(a + " =?utf-8?Q?b", "a =?utf-8?Q?b");
        due("=?utf-8?Q??= =?utf-8?Q??=", "");
        due("x " + a, "x a");
    }

    private static void noWords() {
        itself("=?utf-8?Q?a b?=");
        itself("=?utf-8?Q?a\tb?=");
        itself("=?utf-8?Q?a?b?=");
        itself("=?utf-8?X?a?=");
        itself("=?utf-8?QB?a?=");
        itself("=?utf-8??a?=");
        itself("=?utf-8?Q?a?");
        itself("=?utf-8?Q?a=");
        itself("=?utf-8?Q?a");
        itself("=?utf-8?Q?");
        itself("=?utf-8?Q");
        itself("=?utf-8?");
        itself("=?utf-8");
        itself("=?");
        itself("=");
        itself("?=");
        itself("= ?utf-8?Q?a?=");
        itself("?utf-8?Q?a?=");
        due("=?utf-8?Q?=?utf-8?Q?a?=", "=?utf-8?Q?a");
        due("==?utf-8?Q?a?=", "=a");
        due("=?=?utf-8?Q?a?=?=", "=?a?=");
        due("=?utf-8?Q?a?==", "a=");
        due("=?utf-8?Q?a?=?=", "a?=");
        due("=?utf-8?=?utf-8?Q?a?=", "=?utf-8?a");
    }

    private static void allElseIsUtf8() {
        due("\u00c3\u00a9=?utf-8?Q?a?=\u00e2\u0082\u00ac", "\u00e9a\u20ac");
        due("\u00c3=?utf-8?Q??=\u00a9", BAD + BAD);
        due("\u00ff", BAD);
        due("=41_+AOk-", "=41_+AOk-");
        due("=?x?Q?\u00c3\u00a9?=", "=?x?Q?\u00e9?=");
    }

    private static void eachWordAlone() {
        due("=?utf-8?Q?=C3?= =?utf-8?Q?=A9?=", BAD + BAD);
        due("=?utf-16be?B?2D0?= =?utf-16be?B?3gA?=", BAD + BAD);
        due("=?utf-7?Q?+AOk?= =?utf-7?Q?AOk?=", "\u00e9AOk");
        due("=?utf-8?B?YW?= =?utf-8?B?I?=", "a");
    }

    private static void state() {
        MailCharacters x = Checks.withText("old");
        Checks.add(x, "=?utf-8?Q?new?=");
        Checks.due("words()", x.words(), 3);
        Checks.due("the text is the new one", Checks.textString(x), "new");
        Checks.due("words() of no tape", x.words(), 0);
        Checks.due("no text then", x.count(1), 0);
    }

    private static void longTape() {
        due("x".repeat(1500), "x".repeat(1500));
        due("=?l1?Q??=".repeat(166), "");
        due("=?l1?Q?" + "a".repeat(1491) + "?=", "a".repeat(1491));
        due("=?".repeat(750), "=?".repeat(750));
        due("=?utf-8?Q?".repeat(150), "=?utf-8?Q?".repeat(150));
    }
}
