import java.util.Arrays;
import java.util.Locale;

/** The boundary cases that the document names for charsets: Terms, CHARACTERS and CHARSETS; promises 4 and 6. */
public final class ReadEdgesTest {
    private static final int BAD = 65533;
    private static final int[] SECONDS = {0, 65, 127, 128, 129, 142, 143, 144, 145, 158, 159, 160, 161, 190, 191, 192, 193,
        194, 224, 240, 255};

    public static void main(String[] args) {
        characters();
        names();
        nameOfTheTape();
        ascii();
        latin1();
        latin9();
        windows();
        koi();
        utf8Ranges();
        utf8SecondBytes();
        utf8LaterBytes();
        utf8BadTogether();
        utf16Pairs();
        utf16Alone();
        utf16LastByte();
        utf16Marks();
        utf7HighBytes();
        utf7Runs();
        utf7LeftOver();
        utf7Ends();
        utf7Minus();
        utf7Plus();
        readEmptiesTheTape();
        noSuchCharset();
        Checks.finish();
    }

    private static int[] row(int... values) {
        return values;
    }

    private static void due(int charset, int[] tape, int... want) {
        MailCharacters x = Checks.withTape(tape);
        String what = "read(" + charset + ") of " + Arrays.toString(tape);
        Checks.due(what, x.read(charset), want.length);
        Checks.dueText(what, x, want);
        Checks.dueTape(what, x, "");
    }

    private static void due(int charset, String tape, int... want) {
        due(charset, Checks.bytesOf(tape), want);
    }

    private static void due(int charset, String tape, String want) {
        due(charset, Checks.bytesOf(tape), want.codePoints().toArray());
    }

    private static void characters() {
        Checks.sentence("CHARACTERS are numbers 0 .. 1114111 without 55296 .. 57343.");
        due(4, row(0), 0);
        due(4, row(244, 143, 191, 191), 1114111);
        due(4, row(244, 144, 128, 128), BAD, BAD, BAD, BAD);
        due(4, row(237, 159, 191), 55295);
        due(4, row(237, 160, 128), BAD, BAD, BAD);
        due(4, row(237, 191, 191), BAD, BAD, BAD);
        due(4, row(238, 128, 128), 57344);
        due(6, row(0, 0), 0);
        due(6, row(215, 255), 55295);
        due(6, row(216, 0), BAD);
        due(6, row(223, 255), BAD);
        due(6, row(224, 0), 57344);
        due(6, row(255, 255), 65535);
        due(6, row(216, 0, 220, 0), 65536);
        due(6, row(219, 255, 223, 255), 1114111);
    }

    private static void names() {
        Checks.sentence("CHARSETS, by their names (great or small; of bytes 33 .. 126)");
        String[] all = {"us-ascii ascii iso646-us ansi_x3.4-1968 cp367", "iso-8859-1 iso8859-1 latin1 l1 cp819",
            "iso-8859-15 iso8859-15 latin9 latin-9", "windows-1252 cp1252 x-cp1252", "utf-8 utf8", "utf-16 utf16",
            "utf-16be", "utf-16le", "koi8-r koi8r", "utf-7 utf7"};
        for (int charset = 0; charset < 10; charset++) {
            for (String name : all[charset].split(" ")) {
                dueName(name, charset);
                dueName(name.toUpperCase(Locale.ROOT), charset);
                dueOneByteChanged(name, charset);
                for (char beside : new char[] {0, 10, 13, 31, 32, 33, 126, 127, 128, 255}) {
                    dueName(name + beside, -1);
                    dueName(beside + name, -1);
                }
            }
        }
    }

    /** A name is still one only where the changed byte is the same letter, great or small, or makes another name. */
    private static void dueOneByteChanged(String name, int charset) {
        for (int k = 0; k < name.length(); k++) {
            char c = name.charAt(k);
            for (int other : new int[] {c ^ 32, c ^ 64, c ^ 128, c - 1, c + 1}) {
                String changed = name.substring(0, k) + (char) other + name.substring(k + 1);
                boolean same = c >= 'a' && c <= 'z' && other == c - 32;
                int want = same ? charset : changed.equals("utf-7") ? 9 : changed.equals("utf7") ? 9
                        : changed.equals("utf-8") || changed.equals("utf8") ? 4 : -1;
                dueName(changed, want);
            }
        }
    }

    private static void dueName(String name, int want) {
        MailCharacters x = Checks.withTape(name);
        Checks.due("charset() of " + Checks.shown(name), x.charset(), want);
        Checks.due("the tape behind it", x.count(0), 0);
    }

    private static void nameOfTheTape() {
        Checks.sentence("The TAPE, which is empty then, is the name of a CHARSET: which one; NONE.");
        dueName("", -1);
        dueName("l", -1);
        dueName("l1", 1);
        dueName("l11", -1);
        dueName("utf-8utf-8", -1);
        dueName("utf-16b", -1);
        dueName("utf-16be", 6);
        dueName("iso-8859-1", 1);
        dueName("iso-8859-15", 2);
        dueName("iso-8859-155", -1);
        dueName("latin-1", -1);
        dueName("iso_8859-1", -1);
        dueName("l1" + "\0".repeat(1498), -1);
        MailCharacters x = Checks.holding("utf-8");
        Checks.due("charset()", x.charset(), 4);
        Checks.dueHeld("a name", x, "");
        MailCharacters y = Checks.holding("utf-9");
        Checks.due("charset()", y.charset(), -1);
        Checks.dueHeld("no name", y, "");
    }

    private static void ascii() {
        Checks.sentence("ASCII: below 128 itself, else BAD.");
        for (int b = 0; b < 256; b++) {
            due(0, row(b), b < 128 ? b : BAD);
        }
    }

    private static void latin1() {
        Checks.sentence("LATIN1: itself.");
        for (int b = 0; b < 256; b++) {
            due(1, row(b), b);
        }
    }

    private static void latin9() {
        Checks.sentence("LATIN9: itself but 164 is 8364, 166 352, 168 353, 180 381, 184 382, 188 338, 189 339, 190 376.");
        int[] all = new int[256];
        Arrays.setAll(all, b -> b);
        all[164] = 8364;
        all[166] = 352;
        all[168] = 353;
        all[180] = 381;
        all[184] = 382;
        all[188] = 338;
        all[189] = 339;
        all[190] = 376;
        for (int b = 0; b < 256; b++) {
            due(2, row(b), all[b]);
        }
    }

    private static void windows() {
        Checks.sentence("WINDOWS: itself but 128 .. 159, which are 8364, BAD, 8218");
        int[] others = {8364, BAD, 8218, 402, 8222, 8230, 8224, 8225, 710, 8240, 352, 8249, 338, BAD, 381, BAD, BAD, 8216,
            8217, 8220, 8221, 8226, 8211, 8212, 732, 8482, 353, 8250, 339, BAD, 382, 376};
        for (int b = 0; b < 256; b++) {
            due(3, row(b), b >= 128 && b <= 159 ? others[b - 128] : b);
        }
    }

    private static void koi() {
        Checks.sentence("163 is 1105, 179 1025, 160 .. 191 others, and 128 .. 159, BAD.");
        int[] letters = {1102, 1072, 1073, 1094, 1076, 1077, 1092, 1075, 1093, 1080, 1081, 1082, 1083, 1084, 1085, 1086, 1087,
            1103, 1088, 1089, 1090, 1091, 1078, 1074, 1100, 1099, 1079, 1096, 1101, 1097, 1095, 1098};
        for (int b = 0; b < 128; b++) {
            due(8, row(b), b);
        }
        for (int b = 128; b < 192; b++) {
            due(8, row(b), b == 163 ? 1105 : b == 179 ? 1025 : BAD);
        }
        for (int b = 192; b < 224; b++) {
            due(8, row(b), letters[b - 192]);
            due(8, row(b + 32), letters[b - 192] - 32);
        }
    }

    /** How many bytes are due behind a first one, by the ranges that the document names. */
    private static int bytesBehind(int first) {
        if (first >= 194 && first <= 223) {
            return 1;
        }
        if (first >= 224 && first <= 239) {
            return 2;
        }
        return first >= 240 && first <= 244 ? 3 : 0;
    }

    private static void utf8Ranges() {
        Checks.sentence("UTF8: 194 .. 223 and one, 224 .. 239 and two, 240 .. 244 and three bytes 128 .. 191");
        for (int first = 0; first < 256; first++) {
            int behind = bytesBehind(first);
            int alone = first < 128 ? first : BAD;
            // 160 may stand behind each first one but 237 and 244, 128 behind these
            int second = first == 237 || first == 244 ? 128 : 160;
            due(4, row(first), alone);
            due(4, row(first, 65), alone, 65);
            int[] three = {first, second, 160, 160};
            for (int given = 1; given <= 3; given++) {
                int[] tape = Arrays.copyOf(three, given + 1);
                if (behind == 0) {
                    int[] each = new int[given + 1];
                    Arrays.fill(each, BAD);
                    each[0] = alone;
                    due(4, tape, each);
                } else if (given < behind) {
                    due(4, tape, BAD);
                } else {
                    int[] want = new int[1 + given - behind];
                    Arrays.fill(want, BAD);
                    want[0] = assembled(three, behind);
                    due(4, tape, want);
                }
            }
        }
    }

    private static int assembled(int[] bytes, int behind) {
        int c = bytes[0] & (behind == 1 ? 31 : behind == 2 ? 15 : 7);
        for (int k = 1; k <= behind; k++) {
            c = c * 64 + bytes[k] - 128;
        }
        return c;
    }

    private static void utf8SecondBytes() {
        Checks.sentence("(behind 224 the first of these from 160, behind 237 up to 159, behind 240 from 144, "
                + "behind 244 up to 143)");
        for (int first = 194; first <= 244; first++) {
            int least = first == 224 ? 160 : first == 240 ? 144 : 128;
            int greatest = first == 237 ? 159 : first == 244 ? 143 : 191;
            for (int second : SECONDS) {
                int behind = bytesBehind(first);
                int[] tape = Arrays.copyOf(row(first, second, 128, 191), behind + 1);
                if (second >= least && second <= greatest) {
                    due(4, tape, assembled(tape, behind));
                } else if (second < 128) {
                    int[] want = new int[behind + 1];
                    Arrays.fill(want, BAD);
                    want[1] = second;
                    due(4, tape, want);
                } else if (bytesBehind(second) == 0) {
                    int[] want = new int[behind + 1];
                    Arrays.fill(want, BAD);
                    due(4, tape, want);
                }
            }
        }
    }

    private static void utf8LaterBytes() {
        Checks.sentence("three bytes 128 .. 191");
        due(4, row(224, 160, 127), BAD, 127);
        due(4, row(224, 160, 128), 2048);
        due(4, row(224, 160, 191), 2111);
        due(4, row(224, 160, 192), BAD, BAD);
        due(4, row(225, 128, 127), BAD, 127);
        due(4, row(237, 159, 191), 55295);
        due(4, row(237, 159, 192), BAD, BAD);
        due(4, row(240, 144, 127, 128), BAD, 127, BAD);
        due(4, row(240, 144, 128, 127), BAD, 127);
        due(4, row(240, 144, 128, 128), 65536);
        due(4, row(240, 144, 191, 191), 69631);
        due(4, row(240, 144, 192, 128), BAD, BAD, BAD);
        due(4, row(240, 144, 128, 192), BAD, BAD);
        due(4, row(244, 143, 128, 191), 1110079);
        due(4, row(244, 143, 191, 127), BAD, 127);
        due(4, row(244, 143, 191, 192), BAD, BAD);
    }

    private static void utf8BadTogether() {
        Checks.sentence("else as many bytes as could begin such a one (at least one) are BAD together.");
        due(4, row(128), BAD);
        due(4, row(128, 128), BAD, BAD);
        due(4, row(192, 193, 245, 255), BAD, BAD, BAD, BAD);
        due(4, row(194), BAD);
        due(4, row(194, 194), BAD, BAD);
        due(4, row(194, 194, 128), BAD, 128);
        due(4, row(226, 130), BAD);
        due(4, row(226, 130, 226, 130, 172), BAD, 8364);
        due(4, row(226, 226, 130, 172), BAD, 8364);
        due(4, row(240, 159), BAD);
        due(4, row(240, 159, 152), BAD);
        due(4, row(240, 159, 152, 240), BAD, BAD);
        due(4, row(240, 159, 152, 240, 159, 152, 128), BAD, 128512);
        due(4, row(240, 159, 152, 65), BAD, 65);
        due(4, row(240, 159, 65, 128), BAD, 65, BAD);
        due(4, row(224, 159, 191), BAD, BAD, BAD);
        due(4, row(237, 160), BAD, BAD);
        due(4, row(240, 143), BAD, BAD);
        due(4, row(244, 144), BAD, BAD);
        due(4, row(224, 160), BAD);
        due(4, row(237, 159), BAD);
        due(4, row(240, 144), BAD);
        due(4, row(244, 143), BAD);
        due(4, row(194, 128, 128), 128, BAD);
        due(4, row(65, 226, 130), 65, BAD);
    }

    private static void due16(int[] units, int... want) {
        int[] higherFirst = new int[units.length * 2];
        int[] lowerFirst = new int[units.length * 2];
        for (int k = 0; k < units.length; k++) {
            higherFirst[2 * k] = units[k] >> 8;
            higherFirst[2 * k + 1] = units[k] & 255;
            lowerFirst[2 * k] = units[k] & 255;
            lowerFirst[2 * k + 1] = units[k] >> 8;
        }
        due(6, higherFirst, want);
        due(7, lowerFirst, want);
        due(5, higherFirst, want);
        due(5, join(row(254, 255), higherFirst), want);
        due(5, join(row(255, 254), lowerFirst), want);
    }

    private static int[] join(int[] one, int[] other) {
        int[] both = Arrays.copyOf(one, one.length + other.length);
        System.arraycopy(other, 0, both, one.length, other.length);
        return both;
    }

    private static void utf16Pairs() {
        Checks.sentence("55296 .. 56319 and 56320 .. 57343 behind it are one character");
        int[] edges = {0, 255, 256, 55295, 55296, 55297, 56318, 56319, 56320, 56321, 57342, 57343, 57344, 65535};
        for (int one : edges) {
            for (int other : edges) {
                if (one >= 55296 && one <= 56319 && other >= 56320 && other <= 57343) {
                    due16(row(one, other), 65536 + (one - 55296) * 1024 + other - 56320);
                } else {
                    due16(row(one, other), lone(one), lone(other));
                }
            }
        }
    }

    private static int lone(int unit) {
        return unit >= 55296 && unit <= 57343 ? BAD : unit;
    }

    private static void utf16Alone() {
        Checks.sentence("one of these alone is BAD");
        for (int unit : new int[] {55295, 55296, 56319, 56320, 57343, 57344}) {
            due16(row(unit), lone(unit));
            due16(row(65, unit), 65, lone(unit));
            due16(row(unit, 65), lone(unit), 65);
        }
        due16(row(55296, 55296, 56320), BAD, 65536);
        due16(row(55296, 56320, 56320), 65536, BAD);
        due16(row(55296, 65, 56320), BAD, 65, BAD);
        due16(row(55296, 56320, 55296, 56320), 65536, 65536);
    }

    private static void utf16LastByte() {
        Checks.sentence("a last byte alone is BAD");
        for (int b : new int[] {0, 65, 216, 220, 254, 255}) {
            for (int charset = 5; charset <= 7; charset++) {
                due(charset, row(b), BAD);
                due(charset, row(65, 65, b), 16705, BAD);
                due(charset, row(65, 65, 65, 65), 16705, 16705);
                due(charset, row(65, 65, 65, 65, b), 16705, 16705, BAD);
            }
            due(6, row(216, 0, b), BAD, BAD);
            due(7, row(0, 216, b), BAD, BAD);
            due(5, row(254, 255, b), BAD);
            due(5, row(255, 254, b), BAD);
        }
        due(6, row());
        int[] odd = new int[1499];
        int[] want = new int[750];
        want[749] = BAD;
        due(6, odd, want);
        due(7, new int[1500], new int[750]);
    }

    private static void utf16Marks() {
        Checks.sentence("UTF16: 254 255 or 255 254 at the beginning say which (and are nothing else); else UTF16BE.");
        due(5, row());
        due(5, row(254), BAD);
        due(5, row(255), BAD);
        due(5, row(254, 255));
        due(5, row(255, 254));
        due(5, row(254, 255, 1, 2), 258);
        due(5, row(255, 254, 1, 2), 513);
        due(5, row(1, 2), 258);
        due(5, row(254, 254, 1, 2), 65278, 258);
        due(5, row(255, 255, 1, 2), 65535, 258);
        due(5, row(253, 255, 1, 2), 65023, 258);
        due(5, row(255, 253, 1, 2), 65533, 258);
        due(5, row(254, 255, 254, 255), 65279);
        due(5, row(254, 255, 255, 254), 65534);
        due(5, row(255, 254, 254, 255), 65534);
        due(5, row(255, 254, 255, 254), 65279);
        due(5, row(1, 2, 255, 254), 258, 65534);
        due(5, row(1, 2, 254, 255), 258, 65279);
        due(6, row(254, 255, 1, 2), 65279, 258);
        due(6, row(255, 254, 1, 2), 65534, 258);
        due(7, row(255, 254, 1, 2), 65279, 513);
        due(7, row(254, 255, 1, 2), 65534, 513);
    }

    private static void utf7HighBytes() {
        Checks.sentence("UTF7: a byte 128 and above is BAD");
        for (int b = 0; b < 256; b++) {
            if (b != '+') {
                due(9, row(b), b < 128 ? b : BAD);
                due(9, row('a', b), 'a', b < 128 ? b : BAD);
            }
        }
    }

    private static void utf7Runs() {
        Checks.sentence("each 16 bits of it a unit as in UTF16BE");
        due(9, "+AAA-", 0);
        due(9, "+AGE-", 97);
        due(9, "+//8-", 65535);
        due(9, "+1/8-", 55295);
        due(9, "+2AA-", BAD);
        due(9, "+2/8-", BAD);
        due(9, "+3AA-", BAD);
        due(9, "+3/8-", BAD);
        due(9, "+4AA-", 57344);
        due(9, "+2ADcAA-", 65536);
        due(9, "+2//f/w-", 1114111);
        due(9, "+2ADYANwA-", BAD, 65536);
        due(9, "+2ADcANwA-", 65536, BAD);
        due(9, "+2AAAYQ-", BAD, 97);
        due(9, "+2AA-+3AA-", BAD, BAD);
        due(9, "+2AA+3AA-", BAD, 0x3EDC);
        due(9, "+2AA-a", BAD, 'a');
        due(9, "+2AAa", BAD);
        due(9, "+" + "AGEA".repeat(374), aAnd0(374));
    }

    /** AGEA is 0 97 0: eight of these bytes make the units 97 0 24832 97 ... */
    private static int[] aAnd0(int times) {
        int[] bytes = new int[times * 3];
        for (int k = 0; k < times; k++) {
            bytes[3 * k + 1] = 97;
        }
        int[] units = new int[bytes.length / 2];
        for (int k = 0; k < units.length; k++) {
            units[k] = bytes[2 * k] * 256 + bytes[2 * k + 1];
        }
        return units;
    }

    private static void utf7LeftOver() {
        Checks.sentence("what is left over at its end is nothing");
        String letters = "/////////";
        for (int n = 1; n <= 9; n++) {
            int[] want = new int[n * 6 / 16];
            Arrays.fill(want, 65535);
            due(9, "+" + letters.substring(0, n) + "-", want);
            due(9, "+" + letters.substring(0, n), want);
            int[] more = Arrays.copyOf(want, want.length + 1);
            more[want.length] = '!';
            due(9, "+" + letters.substring(0, n) + "!", more);
            due(9, "+" + letters.substring(0, n) + "-!", more);
        }
        // what one RUN leaves over does not come to the next
        due(9, "+AG-+E-", "");
        due(9, "+AG-+EA-", "");
        due(9, "+AG-+AGE-", "a");
    }

    private static void utf7Ends() {
        Checks.sentence("it ends ahead of the first byte that is no such letter");
        String letters = "ABCDEFGHIJKLMNOPQRSTUVWXYZabcdefghijklmnopqrstuvwxyz0123456789+/";
        for (int b = 0; b < 256; b++) {
            if (letters.indexOf(b) >= 0) {
                due(9, "+AGE" + (char) b, "a");
                due(9, "+AGE" + (char) b + "-!", "a!");
            } else if (b != '-') {
                due(9, "+AGE" + (char) b, 'a', b < 128 ? b : BAD);
                due(9, "+AGE" + (char) b + "AGE", 'a', b < 128 ? b : BAD, 'A', 'G', 'E');
                due(9, "+" + (char) b, b < 128 ? b : BAD);
            }
        }
        due(9, "+AGE", "a");
        due(9, "+AGE=", "a=");
        due(9, "+AGE,+AGI,", "a,b,");
    }

    private static void utf7Minus() {
        Checks.sentence("a - that ends it is nothing");
        due(9, "+AGE-", "a");
        due(9, "+AGE--", "a-");
        due(9, "+AGE!-", "a!-");
        due(9, "+AGE-+AGI-", "ab");
        due(9, "+AGE-AGI-", "aAGI-");
        due(9, "+A-", "");
        due(9, "-", "-");
        due(9, "a-", "a-");
    }

    private static void utf7Plus() {
        Checks.sentence("+- is +");
        due(9, "+-", "+");
        due(9, "+--", "+-");
        due(9, "+-+-", "++");
        due(9, "+-+", "+");
        due(9, "+", "");
        due(9, "+A-", "");
        due(9, "++-", "");
        due(9, "+!-", "!-");
        due(9, "+AGE-+-", "a+");
        due(9, "+-AGE-", "+AGE-");
        due(9, "+-".repeat(750), "+".repeat(750));
    }

    private static void readEmptiesTheTape() {
        Checks.sentence("The TEXT is the TAPE by a CHARSET (the TAPE is empty then): how many characters.");
        for (int charset = 0; charset < 10; charset++) {
            MailCharacters x = Checks.withText("before");
            Checks.due("read(" + charset + ") of no tape", x.read(charset), 0);
            Checks.dueText("read(" + charset + ") of no tape", x);
            Checks.add(x, "\0a\0b");
            boolean two = charset >= 5 && charset <= 7;
            Checks.due("read(" + charset + ")", x.read(charset), two ? 2 : 4);
            Checks.dueTape("read(" + charset + ")", x, "");
            Checks.due("the last", x.at(two ? 1 : 3), charset == 7 ? 'b' * 256 : 'b');
            Checks.due("the one behind", x.at(two ? 2 : 4), -1);
        }
    }

    private static void noSuchCharset() {
        Checks.sentence("IllegalArgumentException: no such CHARSET.");
        for (int charset : new int[] {-2, -1, 10, 11, 256, Integer.MIN_VALUE, Integer.MAX_VALUE}) {
            for (String tape : new String[] {"", "tape", "x".repeat(1500)}) {
                MailCharacters x = Checks.holding(tape);
                Checks.dueThrow("read(" + charset + ")", IllegalArgumentException.class, () -> x.read(charset));
                Checks.dueHeld("read(" + charset + ")", x, tape);
            }
        }
        Checks.due("read(0)", Checks.holding("tape").read(0), 4);
        Checks.due("read(9)", Checks.holding("tape").read(9), 4);
    }
}
