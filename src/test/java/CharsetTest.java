import java.util.Locale;

/** Promise 4: charset. */
public final class CharsetTest {
    private static final String[] NAMES = {
        "us-ascii ascii iso646-us ansi_x3.4-1968 cp367",
        "iso-8859-1 iso8859-1 latin1 l1 cp819",
        "iso-8859-15 iso8859-15 latin9 latin-9",
        "windows-1252 cp1252 x-cp1252",
        "utf-8 utf8",
        "utf-16 utf16",
        "utf-16be",
        "utf-16le",
        "koi8-r koi8r",
        "utf-7 utf7",
    };

    public static void main(String[] args) {
        for (int charset = 0; charset < NAMES.length; charset++) {
            for (String name : NAMES[charset].split(" ")) {
                due(name, charset);
                due(name.toUpperCase(Locale.ROOT), charset);
                due(name.substring(0, 1).toUpperCase(Locale.ROOT) + name.substring(1), charset);
                due(name + "x", -1);
                due(name + " ", -1);
                due(" " + name, -1);
                due(name + "*en", -1);
                due(name + "\r\n", -1);
            }
        }
        String[] none = {"", " ", "utf", "utf-", "utf_8", "utf 8", "utf-8 utf8", "iso-8859-2", "iso-8859-", "l",
            "latin", "koi8", "koi8-u", "utf-16bele", "us-ascii ", "utf16be", "utf-32", "\0", "\u00ff",
            "ansi\u007fx3.4-1968", "ANSI?X3.4-1968", "\rtf-8", "us\rascii"};
        for (String name : none) {
            due(name, -1);
        }
        textStays();
        Checks.finish();
    }

    private static void due(String name, int want) {
        MailCharacters x = Checks.withTape(name);
        Checks.due("charset of " + Checks.shown(name), x.charset(), want);
        Checks.due("tape behind charset of " + Checks.shown(name), x.count(0), 0);
        Checks.due("charset again", x.charset(), -1);
    }

    private static void textStays() {
        MailCharacters x = Checks.withText("abc");
        Checks.add(x, "utf-8");
        Checks.due("charset", x.charset(), 4);
        Checks.due("the text stays", Checks.textString(x), "abc");
        Checks.due("nothing of the tape is written back", x.write(0), 3);
    }
}
