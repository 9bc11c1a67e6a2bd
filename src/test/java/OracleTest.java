import java.nio.charset.Charset;
import java.nio.charset.StandardCharsets;
import java.util.ArrayList;
import java.util.Arrays;
import java.util.Base64;
import java.util.List;
import java.util.Random;
import java.util.regex.Matcher;
import java.util.regex.Pattern;

/** Tapes drawn by a fixed seed, against what Java's library or a pattern makes of the same bytes. */
public final class OracleTest {
    private static final int BAD = 65533;
    private static final int TURNS = 3000;
    private static final Pattern RUN = Pattern.compile("\\+([A-Za-z0-9+/]*)(-?)");
    private static final Pattern WORD = Pattern.compile(
            "=\\?(us-ascii|latin1|latin9|cp1252|utf-8|utf-16|utf-16be|utf-16le|koi8-r|utf-7)(?:\\*[^?]*)?"
                    + "\\?([qb])\\?([^? \\t]*)\\?=", Pattern.CASE_INSENSITIVE);
    private static final Pattern UTF8 = Pattern.compile("([\\x00-\\x7f]|[\\xc2-\\xdf][\\x80-\\xbf]"
            + "|\\xe0[\\xa0-\\xbf][\\x80-\\xbf]|[\\xe1-\\xec\\xee\\xef][\\x80-\\xbf]{2}|\\xed[\\x80-\\x9f][\\x80-\\xbf]"
            + "|\\xf0[\\x90-\\xbf][\\x80-\\xbf]{2}|[\\xf1-\\xf3][\\x80-\\xbf]{3}|\\xf4[\\x80-\\x8f][\\x80-\\xbf]{2})"
            + "|\\xe0[\\xa0-\\xbf]|[\\xe1-\\xec\\xee\\xef][\\x80-\\xbf]|\\xed[\\x80-\\x9f]|\\xf0[\\x90-\\xbf][\\x80-\\xbf]?"
            + "|[\\xf1-\\xf3][\\x80-\\xbf]{1,2}|\\xf4[\\x80-\\x8f][\\x80-\\xbf]?|.", Pattern.DOTALL);
    private static final List<String> NAMES = Arrays.asList("us-ascii", "latin1", "latin9", "cp1252", "utf-8",
            "utf-16", "utf-16be", "utf-16le", "koi8-r", "utf-7");
    private static final String[] SCRAPS = {
        "=?", "?=", "=?utf-8?q?", "=?UTF-8*en?B?", "=?latin1?Q?", "=?koi8-r?b?", "=?utf-7?q?", "=?utf-16?b?",
        "=?utf-16le?Q?", "?= ", "?=\r\n ", "?=\t=?utf-8?q?", "?==?us-ascii?Q?", "=41", "=c3=a9", "=C3", "_", "?", "=",
        " ", "\t", "\r\n", "\n", "\r", "YWI", "YQ==", "+AOk-", "+", "-", "+2D3eAA", "a", "\u00c3\u00a9", "\u00ff", "*",
        "begin x\n", "end", "#0V%T\n", "`"
    };

    private static final Random RANDOM = new Random(20261115);

    public static void main(String[] args) {
        for (int turn = 0; turn < TURNS; turn++) {
            int[] bytes = RANDOM.nextInt(3) == 0 ? anyBytes() : RANDOM.nextBoolean() ? utf8Bytes() : scraps();
            for (int charset = 0; charset < 10; charset++) {
                reads(bytes, charset);
            }
            uncodesBase64(bytes);
            uncodesQuoted(bytes);
            codes(bytes);
            words(bytes);
            writes(bytes);
        }
        Checks.finish();
    }

    private static int[] anyBytes() {
        return RANDOM.ints(RANDOM.nextInt(80), 0, 256).toArray();
    }

    /** Bytes that mostly begin or go on in UTF8. */
    private static int[] utf8Bytes() {
        int[] edges = {65, 127, 128, 143, 144, 159, 160, 191, 192, 193, 194, 223, 224, 225, 236, 237, 238, 239, 240,
            241, 243, 244, 245, 216, 217, 220, 254, 255};
        return RANDOM.ints(RANDOM.nextInt(60), 0, edges.length).map(k -> edges[k]).toArray();
    }

    private static int[] scraps() {
        StringBuilder b = new StringBuilder();
        int n = RANDOM.nextInt(30);
        for (int k = 0; k < n; k++) {
            b.append(SCRAPS[RANDOM.nextInt(SCRAPS.length)]);
        }
        return Checks.bytesOf(b.toString());
    }

    private static void reads(int[] bytes, int charset) {
        MailCharacters x = Checks.withTape(bytes);
        int[] want = read(bytes, charset);
        Checks.due("read(" + charset + ")", x.read(charset), want.length);
        Checks.dueRow("read(" + charset + ") of " + Arrays.toString(bytes), Checks.text(x), want);
    }

    private static int[] read(int[] bytes, int charset) {
        switch (charset) {
            case 0:
                return Arrays.stream(bytes).map(b -> b < 128 ? b : BAD).toArray();
            case 1:
                return bytes;
            case 2:
                return byLibrary(bytes, Charset.forName("ISO-8859-15"));
            case 3:
                return byLibrary(bytes, Charset.forName("windows-1252"));
            case 4:
                return utf8(bytes);
            case 5:
                boolean lowerFirst = bytes.length > 1 && bytes[0] == 255 && bytes[1] == 254;
                boolean marked = lowerFirst || bytes.length > 1 && bytes[0] == 254 && bytes[1] == 255;
                return read(marked ? Arrays.copyOfRange(bytes, 2, bytes.length) : bytes, lowerFirst ? 7 : 6);
            case 6:
                return units(bytes, 0, 1);
            case 7:
                return units(bytes, 1, 0);
            case 8:
                // the library has frames and signs where the document has BAD
                return Arrays.stream(byLibrary(bytes, Charset.forName("KOI8-R")))
                        .map(c -> c < 128 || c >= 1025 && c <= 1105 ? c : BAD).toArray();
            default:
                return utf7(bytes);
        }
    }

    private static int[] byLibrary(int[] bytes, Charset charset) {
        return new String(Checks.signed(bytes), charset).codePoints().toArray();
    }

    /** Java's library takes two bytes of a half pair together, which the document does not: so a pattern divides. */
    private static int[] utf8(int[] bytes) {
        StringBuilder all = new StringBuilder();
        Matcher m = UTF8.matcher(new String(bytes, 0, bytes.length));
        while (m.find()) {
            all.append(m.group(1) == null ? "\ufffd"
                    : new String(Checks.signed(Checks.bytesOf(m.group())), StandardCharsets.UTF_8));
        }
        return all.toString().codePoints().toArray();
    }

    private static int[] units(int[] bytes, int higher, int lower) {
        StringBuilder b = new StringBuilder();
        for (int k = 0; k + 1 < bytes.length; k += 2) {
            b.append((char) (bytes[k + higher] * 256 + bytes[k + lower]));
        }
        String s = b.toString() + (bytes.length % 2 == 0 ? "" : "\ufffd");
        return s.codePoints().map(c -> c >= 55296 && c <= 57343 ? BAD : c).toArray();
    }

    private static int[] utf7(int[] bytes) {
        String s = new String(bytes, 0, bytes.length);
        List<Integer> all = new ArrayList<>();
        Matcher m = RUN.matcher(s);
        int at = 0;
        while (m.find()) {
            addDirect(s.substring(at, m.start()), all);
            at = m.end();
            if (m.group().equals("+-")) {
                all.add((int) '+');
                continue;
            }
            byte[] run = unbase(m.group(1));
            for (int c : units(Checks.unsigned(Arrays.copyOf(run, run.length / 2 * 2)), 0, 1)) {
                all.add(c);
            }
        }
        addDirect(s.substring(at), all);
        return all.stream().mapToInt(k -> k).toArray();
    }

    private static void addDirect(String s, List<Integer> all) {
        s.chars().forEach(c -> all.add(c < 128 ? c : BAD));
    }

    private static byte[] unbase(String s) {
        String letters = s.replaceAll("=(?s:.*)", "").replaceAll("[^A-Za-z0-9+/]", "");
        String whole = letters.length() % 4 == 1 ? letters.substring(0, letters.length() - 1) : letters;
        return Base64.getDecoder().decode(whole);
    }

    private static void uncodesBase64(int[] bytes) {
        MailCharacters x = Checks.withTape(bytes);
        x.uncode(1);
        Checks.dueRow("uncode(1) of " + Arrays.toString(bytes), Checks.tape(x),
                Checks.unsigned(unbase(new String(bytes, 0, bytes.length))));
    }

    private static void uncodesQuoted(int[] bytes) {
        String s = new String(bytes, 0, bytes.length);
        String lines = s.replaceAll("\r\n", "\n").replaceAll("[ \t]+(?=\n|\\z)", "").replaceAll("=(\n|\\z)", "")
                .replaceAll("\n", "\r\n");
        MailCharacters x = Checks.withTape(bytes);
        x.uncode(2);
        // where a line goes on in the next, a = of the one must not meet digits of the other
        if (!Pattern.compile("=[0-9A-Fa-f]?=[ \t]*\r?\n[0-9A-Fa-f]").matcher(s).find()) {
            Checks.due("uncode(2) of " + Checks.shown(s), Checks.tapeString(x), unhexed(lines));
        }
    }

    private static String unhexed(String s) {
        return Pattern.compile("=([0-9A-Fa-f]{2})").matcher(s).replaceAll(m ->
                Matcher.quoteReplacement(String.valueOf((char) Integer.parseInt(m.group(1), 16))));
    }

    private static void codes(int[] bytes) {
        MailCharacters x = Checks.withTape(bytes);
        x.code(1);
        Checks.dueRow("code(1)", Checks.tape(x),
                Checks.unsigned(Base64.getMimeEncoder().encode(Checks.signed(bytes))));
        x.uncode(1);
        Checks.dueRow("code(1) and back", Checks.tape(x), bytes);
        x.code(2);
        String coded = Checks.tapeString(x);
        Checks.due("code(2) keeps to its letters, " + Checks.shown(coded),
                coded.matches("((?:[\t !-<>-~]|=[0-9A-F]{2}){0,75}=?(\r\n|\\z))*") ? 1 : 0, 1);
        for (String line : coded.split("\r\n", -1)) {
            Checks.due("code(2) keeps its lines short", line.length() <= 76 ? 1 : 0, 1);
            Checks.due("code(2) leaves no blank at an end", line.matches(".*[ \t]") ? 1 : 0, 0);
        }
        x.uncode(2);
        Checks.dueRow("code(2) and back", Checks.tape(x), bytes);
    }

    private static void words(int[] bytes) {
        String s = new String(bytes, 0, bytes.length);
        List<Integer> all = new ArrayList<>();
        Matcher m = WORD.matcher(s);
        int at = 0;
        while (m.find()) {
            String ahead = s.substring(at, m.start());
            if (at == 0 || !ahead.matches("[ \t\r\n]*")) {
                addAll(read(Checks.bytesOf(ahead), 4), all);
            }
            boolean based = m.group(2).equalsIgnoreCase("b");
            int[] inside = based ? Checks.unsigned(unbase(m.group(3)))
                    : Checks.bytesOf(unhexed(m.group(3).replace('_', ' ')));
            addAll(read(inside, NAMES.indexOf(m.group(1).toLowerCase())), all);
            at = m.end();
        }
        addAll(read(Checks.bytesOf(s.substring(at)), 4), all);
        MailCharacters x = Checks.withTape(bytes);
        x.words();
        Checks.dueRow("words() of " + Checks.shown(s), Checks.text(x), all.stream().mapToInt(k -> k).toArray());
    }

    private static void addAll(int[] row, List<Integer> all) {
        for (int c : row) {
            all.add(c);
        }
    }

    private static void writes(int[] bytes) {
        MailCharacters x = Checks.withTape(bytes);
        x.read(4);
        String text = Checks.textString(x);
        x.write(4);
        Checks.dueRow("write(4)", Checks.tape(x), Checks.unsigned(text.getBytes(StandardCharsets.UTF_8)));
        x.write(5);
        // the library marks no empty text
        Checks.dueRow("write(5)", Checks.tape(x),
                Checks.unsigned(("\ufeff" + text).getBytes(StandardCharsets.UTF_16BE)));
        x.write(6);
        Checks.dueRow("write(6)", Checks.tape(x), Checks.unsigned(text.getBytes(StandardCharsets.UTF_16BE)));
        x.write(7);
        Checks.dueRow("write(7)", Checks.tape(x), Checks.unsigned(text.getBytes(StandardCharsets.UTF_16LE)));
        x.write(2);
        Checks.dueRow("write(2)", Checks.tape(x), Checks.unsigned(text.getBytes(Charset.forName("ISO-8859-15"))));
        x.write(3);
        Checks.dueRow("write(3)", Checks.tape(x), Checks.unsigned(text.getBytes(Charset.forName("windows-1252"))));
        x.write(9);
        x.read(9);
        Checks.due("write(9) and back", Checks.textString(x), text);
    }
}
