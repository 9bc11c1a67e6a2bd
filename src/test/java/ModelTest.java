import java.nio.charset.Charset;
import java.nio.charset.StandardCharsets;
import java.util.ArrayList;
import java.util.Arrays;
import java.util.Base64;
import java.util.List;
import java.util.Locale;
import java.util.Random;

/**
 * Drawn runs of calls, each answer against a second writing of the document.
 *
 * <p>The second writing holds tape and text as Java's own texts, and shares no line with the program.
 */
public final class ModelTest {
    private static final int RUNS = 4000;
    private static final int MOST_CALLS = 512;
    /** What a run's tape is made of: one row a run. */
    private static final String[][] SCRAPS = {
        {"=?utf-8?q?", "=?UTF-16LE?B?", "?=", "2D3eAA", "YQ==", "YWJj", "+", "-", "+AOk-", "+2D0", "3gA-", "=", "=4", "1",
            "=E2=82=AC", "=e9", " =\r\n", " \t", "\r\n", "\n", "\r", " ", "\t", "begin x\n", "#0V%T\n", "`\n", "abc", "~",
            "\\", "_", "\u0080", "\u00ff", "\u00a3\u00b3\u00a4", "\u00c3\u00a9", "\u00e2\u0082", "\u00ac",
            "\u00f0\u009f\u0098\u0080", "\u00ed\u00a0\u0080", "\u00fe\u00ff", "\u00ff\u00fe", "\u003d\u00d8", "\0",
            "\u00d8\u003d\u00de\u0000", "\u0080\u00bf\u00bd\u00a3\u00c1\u00ff\u0095\u009f", "\u00d1\u00d2 \u00e1\u00e2"},
        {"=?utf-8?q?", "=?UTF-16LE?B?", "=?utf-16?b?", "=?l1*en?Q?", "=?koi8-r?b?", "=?utf-7?Q?", "=?ascii*?q?", "?=", "?=",
            "?= =?cp1252?B?", "?=\r\n\t=?utf-8?Q?", "?= \u00ff =?utf-8?b?", "=?x?Q?", "2D3eAA", "YQ==", "+2D0", "=e9", "_",
            "=E2=82=AC", "\u00c3\u00a9", " ", "a", "//4", "=", "?"},
        {"begin 644 x\r\n", "begin x\n", "begin \n", "#0V%T\n", "$0V%T90\r\n", "%0V%", "M", "0", "0V%T", "\n", "\r\n", "`\n",
            " \n", "end", "end\n", "end \n", "#", "!", "\u00a3", "\u0003\u0080\u001f\u00ff\u007f", "\r"},
        {"us-ascii", "ISO646-US", "Cp819", "l1", "latin", "latin9", "iso-8859-1", "5", "WINDOWS-1252", "utf-", "utf", "7",
            "8", "16", "LE", "be", "x-cp1252", "koi8", "-r", "R", " ", "-", "*", "\u00e9", "\0"}
    };
    private static final int MIXED = 0;
    private static final int WORDS = 1;
    private static final int HEXED = 2;
    private static final Random RANDOM = new Random(1500);

    private final MailCharacters program = new MailCharacters();
    private final Model model = new Model();
    private final StringBuilder told = new StringBuilder();
    private String[] scraps;
    private int calls;
    /** That an answer was not as due: what comes behind it tells nothing more. */
    private boolean apart;

    public static void main(String[] args) {
        for (int run = 0; run < RUNS; run++) {
            new ModelTest().run(run % (SCRAPS.length + 2));
        }
        Checks.finish();
    }

    /** A kind beyond those of the scraps is a run that grows. */
    private void run(int kind) {
        boolean growing = kind >= SCRAPS.length;
        scraps = SCRAPS[growing ? MIXED : kind];
        int turns = 5 + RANDOM.nextInt(growing ? 50 : 30);
        for (int turn = 0; turn < turns && calls < MOST_CALLS - 30 && !apart; turn++) {
            if (growing) {
                grow();
            } else if (kind == MIXED || RANDOM.nextInt(4) == 0) {
                turn();
            } else {
                turnOf(kind);
            }
            for (int what = -1; what < 4; what += 1 + RANDOM.nextInt(3)) {
                same("count", what);
            }
            probe(RANDOM.nextInt(1600) - 50);
            probe(RANDOM.nextInt(model.tape.length() + 2));
        }
        int most = Math.max(model.tape.length(), model.text.length);
        int from = RANDOM.nextInt(most + 1) - 20;
        for (int k = from; k <= most && calls + 2 <= MOST_CALLS && !apart; k++) {
            probe(k);
        }
    }

    /** The call that the run's scraps are for. */
    private void turnOf(int kind) {
        if (kind == HEXED && RANDOM.nextInt(4) > 0) {
            feed("begin x\n");
        }
        for (int k = RANDOM.nextInt(3); k >= 0; k--) {
            feed(drawn(4));
        }
        if (kind == HEXED) {
            same("uncode", 3);
        } else {
            same(kind == WORDS ? "words" : "charset", 0);
        }
    }

    private void turn() {
        int draw = RANDOM.nextInt(20);
        int argument = argument();
        if (draw < 9) {
            feed(RANDOM.nextInt(10) == 0 ? anyBytes() : drawn(4));
        } else if (draw < 11) {
            same("uncode", argument < 4 || argument > 9 ? argument : 1 + argument % 3);
        } else if (draw < 13) {
            same("read", argument);
        } else if (draw < 14) {
            same("words", 0);
        } else if (draw < 17) {
            same("write", argument);
        } else if (draw < 19) {
            same("code", argument > 3 && argument < 10 ? 1 + argument % 2 : argument);
        } else {
            same("end", argument);
        }
    }

    /** Turns by which the tape seldom becomes shorter, so that it comes to its 1500. */
    private void grow() {
        int draw = RANDOM.nextInt(20);
        if (draw < 9) {
            feed(RANDOM.nextBoolean() ? anyBytes() : drawn(20));
        } else if (draw < 12) {
            same("read", RANDOM.nextInt(10));
            same("write", 4 + RANDOM.nextInt(6));
        } else if (draw < 15) {
            same("code", 1 + RANDOM.nextInt(2));
        } else if (draw < 17) {
            same("read", RANDOM.nextInt(4));
            same("write", argument());
        } else if (draw < 19) {
            same("uncode", 2);
        } else {
            same("write", argument());
        }
    }

    /** Mostly one that a charset has. */
    private static int argument() {
        int[] others = {-1, 10, 11, 1500, Integer.MIN_VALUE, Integer.MAX_VALUE};
        return RANDOM.nextInt(30) == 0 ? others[RANDOM.nextInt(others.length)] : RANDOM.nextInt(10);
    }

    private String drawn(int most) {
        StringBuilder b = new StringBuilder();
        for (int k = RANDOM.nextInt(most); k >= 0; k--) {
            b.append(scraps[RANDOM.nextInt(scraps.length)]);
        }
        return b.toString();
    }

    private static String anyBytes() {
        int[] bytes = RANDOM.ints(20, 0, 256).toArray();
        return new String(bytes, 0, bytes.length);
    }

    private void feed(String all) {
        String bytes = all.length() > 20 ? all.substring(0, 20) : all;
        int[] five = new int[5];
        for (int k = 0; k < bytes.length(); k++) {
            five[k / 4] |= bytes.charAt(k) << 24 - k % 4 * 8;
        }
        calls++;
        program.feed(five[0], five[1], five[2], five[3], five[4]);
        model.ready = bytes + "\0".repeat(20 - bytes.length());
        told.append(" feed ").append(Checks.shown(bytes));
        same("end", bytes.length());
    }

    private void probe(int k) {
        same("byteAt", k);
        same("at", k);
    }

    private void same(String call, int argument) {
        calls++;
        String want = model.answer(call, argument);
        if (!call.equals("byteAt") && !call.equals("at") && !call.equals("count")) {
            told.append(' ').append(call).append('(').append(argument).append(") ").append(want);
        }
        String got = answer(call, argument);
        apart = apart || !got.equals(want);
        // the run is long, so it is told only where it is needed
        Checks.due(apart ? call + "(" + argument + ") behind" + told : call, got, want);
    }

    private String answer(String call, int argument) {
        try {
            switch (call) {
                case "end": return "" + program.end(argument);
                case "charset": return "" + program.charset();
                case "uncode": return "" + program.uncode(argument);
                case "read": return "" + program.read(argument);
                case "words": return "" + program.words();
                case "write": return "" + program.write(argument);
                case "code": return "" + program.code(argument);
                case "byteAt": return "" + program.byteAt(argument);
                case "at": return "" + program.at(argument);
                default: return "" + program.count(argument);
            }
        } catch (RuntimeException e) {
            return e.getClass().getSimpleName();
        }
    }

    /** The document once more: the tape as a text of characters 0 to 255, the text as a row of code points. */
    private static final class Model {
        private static final String LETTERS = "ABCDEFGHIJKLMNOPQRSTUVWXYZabcdefghijklmnopqrstuvwxyz0123456789+/";
        private static final String[][] NAMES = {
            {"us-ascii", "ascii", "iso646-us", "ansi_x3.4-1968", "cp367"},
            {"iso-8859-1", "iso8859-1", "latin1", "l1", "cp819"},
            {"iso-8859-15", "iso8859-15", "latin9", "latin-9"},
            {"windows-1252", "cp1252", "x-cp1252"}, {"utf-8", "utf8"}, {"utf-16", "utf16"}, {"utf-16be"}, {"utf-16le"},
            {"koi8-r", "koi8r"}, {"utf-7", "utf7"}
        };
        /** The characters of bytes 0 to 255; the library has frames and signs where the document's KOI has none. */
        private static final String[] ONES = {
            ones("US-ASCII"), ones("ISO-8859-1"), ones("ISO-8859-15"), ones("windows-1252"), "", "", "", "",
            ones("KOI8-R").replaceAll("[^\\x00-\\x7f\\u0401-\\u0451]", "\ufffd")
        };

        private String ready = "\0".repeat(20);
        private String tape = "";
        private int[] text = {};

        String answer(String call, int argument) {
            switch (call) {
                case "end": return end(argument);
                case "charset": return charset();
                case "uncode": return uncode(argument);
                case "read": return read(argument);
                case "words": return words();
                case "write": return write(argument);
                case "code": return code(argument);
                case "byteAt": return placeIn(tape.chars().toArray(), argument);
                case "at": return placeIn(text, argument);
                default: return count(argument);
            }
        }

        private static String placeIn(int[] row, int k) {
            return k >= 0 && k < row.length ? "" + row[k] : "-1";
        }

        private String end(int n) {
            if (n < 0 || n > 20 || tape.length() + n > 1500) {
                return "-1";
            }
            tape = tape + ready.substring(0, n);
            ready = "\0".repeat(20);
            return "" + tape.length();
        }

        private String count(int what) {
            long[] all = {tape.length(), text.length, Arrays.stream(text).filter(c -> c == 65533).count()};
            return what >= 0 && what < 3 ? "" + all[what] : "-1";
        }

        private String charset() {
            String name = tape;
            tape = "";
            return "" + charsetOf(name);
        }

        private static int charsetOf(String name) {
            for (int charset = 0; charset < NAMES.length; charset++) {
                // in this locale no letter beyond Z becomes one of a name's
                if (Arrays.asList(NAMES[charset]).contains(name.toLowerCase(Locale.ROOT))) {
                    return charset;
                }
            }
            return -1;
        }

        private String uncode(int coding) {
            switch (coding) {
                case 0: break;
                case 1: tape = unbased(tape); break;
                case 2: tape = unquoted(); break;
                case 3: tape = unhexed(); break;
                default: return "IllegalArgumentException";
            }
            tape = tape.substring(0, Math.min(1500, tape.length()));
            return "" + tape.length();
        }

        private static String unbased(String bytes) {
            StringBuilder letters = new StringBuilder();
            for (char b : bytes.split("=", -1)[0].toCharArray()) {
                letters.append(LETTERS.indexOf(b) < 0 ? "" : "" + b);
            }
            StringBuilder out = new StringBuilder();
            for (int k = 0; k < letters.length(); k += 4) {
                int n = Math.min(4, letters.length() - k);
                int all = 0;
                for (int j = 0; j < 4; j++) {
                    all = all * 64 + (j < n ? LETTERS.indexOf(letters.charAt(k + j)) : 0);
                }
                out.append((char) (all / 65536)).append((char) (all / 256 % 256)).append((char) (all % 256));
                out.setLength(out.length() - (4 - n));
            }
            return out.toString();
        }

        /** Each line with the 10 that ended it, if one did, but without the 13 ahead of that. */
        private List<String> lines() {
            List<String> all = new ArrayList<>();
            for (String rest = tape; !rest.isEmpty();) {
                int end = rest.indexOf('\n') < 0 ? rest.length() : rest.indexOf('\n') + 1;
                all.add(rest.substring(0, end).replaceFirst("\r\n\\z", "\n"));
                rest = rest.substring(end);
            }
            return all;
        }

        private String unquoted() {
            StringBuilder out = new StringBuilder();
            for (String whole : lines()) {
                boolean ended = whole.endsWith("\n");
                String line = ended ? whole.substring(0, whole.length() - 1) : whole;
                while (line.endsWith(" ") || line.endsWith("\t")) {
                    line = line.substring(0, line.length() - 1);
                }
                boolean soft = line.endsWith("=");
                out.append(withoutHex(soft ? line.substring(0, line.length() - 1) : line));
                out.append(ended && !soft ? "\r\n" : "");
            }
            return out.toString();
        }

        private static String withoutHex(String line) {
            StringBuilder out = new StringBuilder();
            for (String rest = line; !rest.isEmpty();) {
                boolean hex = rest.matches("(?s)=[0-9A-Fa-f]{2}.*");
                out.append(hex ? (char) Integer.parseInt(rest.substring(1, 3), 16) : rest.charAt(0));
                rest = rest.substring(hex ? 3 : 1);
            }
            return out.toString();
        }

        private String unhexed() {
            StringBuilder out = new StringBuilder();
            boolean begun = false;
            for (String whole : lines()) {
                String line = whole.endsWith("\n") ? whole.substring(0, whole.length() - 1) : whole;
                if (!begun) {
                    begun = line.startsWith("begin ") && line.length() >= 7;
                    continue;
                }
                if (line.isEmpty() || line.equals("end") || sixBits(line.charAt(0)) == 0) {
                    break;
                }
                StringBuilder made = new StringBuilder();
                for (int k = 1; k < line.length(); k += 4) {
                    int all = 0;
                    for (int j = k; j < k + 4; j++) {
                        all = all * 64 + (j < line.length() ? sixBits(line.charAt(j)) : 0);
                    }
                    made.append((char) (all / 65536)).append((char) (all / 256 % 256)).append((char) (all % 256));
                }
                out.append(made, 0, Math.min(made.length(), sixBits(line.charAt(0))));
            }
            return out.toString();
        }

        private static int sixBits(int b) {
            return Math.floorMod(b - 32, 64);
        }

        private String read(int charset) {
            if (charset < 0 || charset > 9) {
                return "IllegalArgumentException";
            }
            return become(charactersOf(tape, charset));
        }

        private String become(String characters) {
            text = characters.codePoints().limit(3000).toArray();
            tape = "";
            return "" + text.length;
        }

        private static String charactersOf(String bytes, int charset) {
            switch (charset) {
                case 4: return ofUtf8(bytes);
                case 5: return bytes.startsWith("\u00ff\u00fe") ? ofUtf16(bytes.substring(2), false)
                        : ofUtf16(bytes.startsWith("\u00fe\u00ff") ? bytes.substring(2) : bytes, true);
                case 6: return ofUtf16(bytes, true);
                case 7: return ofUtf16(bytes, false);
                case 9: return ofUtf7(bytes);
                default:
                    StringBuilder out = new StringBuilder();
                    bytes.chars().forEach(b -> out.append(ONES[charset].charAt(b)));
                    return out.toString();
            }
        }

        /** All bytes by a charset that Java's library has. */
        private static String ones(String charset) {
            byte[] bytes = new byte[256];
            for (int b = 0; b < 256; b++) {
                bytes[b] = (byte) b;
            }
            return new String(bytes, Charset.forName(charset));
        }

        private static String ofUtf8(String bytes) {
            StringBuilder out = new StringBuilder();
            for (String rest = bytes; !rest.isEmpty();) {
                int n = 1;
                while (n < rest.length() && beginsUtf8(rest.substring(0, n + 1))) {
                    n++;
                }
                String one = rest.substring(0, n);
                String character = new String(one.getBytes(StandardCharsets.ISO_8859_1), StandardCharsets.UTF_8);
                boolean whole = character.getBytes(StandardCharsets.UTF_8).length == n && !character.contains("\ufffd");
                out.append(whole || one.equals("\u00ef\u00bf\u00bd") ? character : "\ufffd");
                rest = rest.substring(n);
            }
            return out.toString();
        }

        /** Whether these bytes are a character of more than one byte, or could be the beginning of one. */
        private static boolean beginsUtf8(String bytes) {
            int first = bytes.charAt(0);
            int second = bytes.charAt(1);
            int behind = first < 194 || first > 244 ? 0 : first < 224 ? 1 : first < 240 ? 2 : 3;
            boolean allowed = !(first == 224 && second < 160 || first == 237 && second > 159
                    || first == 240 && second < 144 || first == 244 && second > 143);
            return allowed && bytes.length() - 1 <= behind && bytes.substring(1).matches("[\u0080-\u00bf]+");
        }

        private static String ofUtf16(String bytes, boolean higherFirst) {
            StringBuilder units = new StringBuilder();
            for (int k = 0; k + 1 < bytes.length(); k += 2) {
                char one = bytes.charAt(k);
                char other = bytes.charAt(k + 1);
                units.append((char) (higherFirst ? one << 8 | other : other << 8 | one));
            }
            StringBuilder out = new StringBuilder();
            units.codePoints().forEach(c -> out.appendCodePoint(c >= 55296 && c <= 57343 ? 65533 : c));
            return out.append(bytes.length() % 2 == 0 ? "" : "\ufffd").toString();
        }

        private static String ofUtf7(String bytes) {
            StringBuilder out = new StringBuilder();
            for (String rest = bytes; !rest.isEmpty();) {
                if (rest.charAt(0) != '+') {
                    out.append(rest.charAt(0) < 128 ? rest.charAt(0) : '\ufffd');
                    rest = rest.substring(1);
                    continue;
                }
                String run = rest.substring(1).replaceFirst("(?s)[^A-Za-z0-9+/].*", "");
                rest = rest.substring(1 + run.length());
                boolean dash = rest.startsWith("-");
                rest = rest.substring(dash ? 1 : 0);
                String units = unbased(run);
                out.append(run.isEmpty() && dash ? "+" : ofUtf16(units.substring(0, units.length() / 2 * 2), true));
            }
            return out.toString();
        }

        private String words() {
            StringBuilder out = new StringBuilder();
            String others = "";
            boolean behindWord = false;
            for (int k = 0; k < tape.length();) {
                String[] word = wordAt(tape.substring(k));
                if (word == null) {
                    others += tape.charAt(k++);
                    continue;
                }
                out.append(behindWord && others.matches("[ \t\r\n]*") ? "" : ofUtf8(others));
                others = "";
                String bytes = word[1].equalsIgnoreCase("B") ? unbased(word[2]) : withoutHex(word[2].replace('_', ' '));
                out.append(charactersOf(bytes, charsetOf(word[0])));
                behindWord = true;
                k += Integer.parseInt(word[3]);
            }
            return become(out.append(ofUtf8(others)).toString());
        }

        /** Its charset's name, its kind, its bytes and how long it is; null if none stands at the beginning. */
        private static String[] wordAt(String rest) {
            String[] parts = rest.split("\\?", 5);
            if (parts.length < 5 || !parts[0].equals("=") || !parts[4].startsWith("=")) {
                return null;
            }
            String name = parts[1].split("\\*", 2)[0];
            boolean fits = charsetOf(name) >= 0 && parts[2].matches("[QBqb]") && parts[3].matches("[^ \t]*");
            int length = parts[1].length() + parts[2].length() + parts[3].length() + 6;
            return fits ? new String[] {name, parts[2], parts[3], "" + length} : null;
        }

        private String write(int charset) {
            if (charset < 0 || charset > 9) {
                return "IllegalArgumentException";
            }
            StringBuilder out = new StringBuilder(charset == 5 ? "\u00fe\u00ff" : "");
            for (String piece : charset == 9 ? utf7Pieces() : pieces(charset)) {
                if (out.length() + piece.length() > 1500) {
                    break;
                }
                out.append(piece);
            }
            tape = out.toString();
            return "" + tape.length();
        }

        private List<String> pieces(int charset) {
            List<String> all = new ArrayList<>();
            for (int c : text) {
                String one = new String(Character.toChars(c));
                switch (charset) {
                    case 4: all.add(latin1(one.getBytes(StandardCharsets.UTF_8))); break;
                    case 5:
                    case 6: all.add(latin1(one.getBytes(StandardCharsets.UTF_16BE))); break;
                    case 7: all.add(latin1(one.getBytes(StandardCharsets.UTF_16LE))); break;
                    default: all.add("" + byteOf(c, charset));
                }
            }
            return all;
        }

        private static String latin1(byte[] bytes) {
            return new String(bytes, StandardCharsets.ISO_8859_1);
        }

        private static char byteOf(int c, int charset) {
            int b = c == 65533 ? -1 : ONES[charset].indexOf(c);
            return b < 0 ? '?' : (char) b;
        }

        private List<String> utf7Pieces() {
            List<String> all = new ArrayList<>();
            String run = "";
            for (int c : text) {
                boolean direct = c == 9 || c == 10 || c == 13 || c >= 32 && c <= 126 && c != '\\' && c != '~';
                if (!direct) {
                    run += new String(Character.toChars(c));
                    continue;
                }
                addRun(run, all);
                run = "";
                all.add(c == '+' ? "+-" : "" + (char) c);
            }
            addRun(run, all);
            return all;
        }

        private static void addRun(String run, List<String> all) {
            if (!run.isEmpty()) {
                byte[] units = run.getBytes(StandardCharsets.UTF_16BE);
                all.add("+" + latin1(Base64.getEncoder().withoutPadding().encode(units)) + "-");
            }
        }

        private String code(int coding) {
            if (coding != 1 && coding != 2) {
                return "IllegalArgumentException";
            }
            String made = coding == 2 ? quoted()
                    : latin1(Base64.getMimeEncoder().encode(tape.getBytes(StandardCharsets.ISO_8859_1)));
            if (made.length() > 1500) {
                return "IllegalStateException";
            }
            tape = made;
            return "" + tape.length();
        }

        private String quoted() {
            List<String> lines = new ArrayList<>();
            for (String whole : tape.split("\r\n", -1)) {
                String line = "";
                for (int k = 0; k < whole.length(); k++) {
                    char b = whole.charAt(k);
                    boolean blank = (b == ' ' || b == '\t') && k + 1 < whole.length();
                    String item = blank || b >= 33 && b <= 126 && b != '=' ? "" + b : String.format("=%02X", (int) b);
                    if ((line + item + "=").length() > 76) {
                        lines.add(line + "=");
                        line = "";
                    }
                    line += item;
                }
                lines.add(line);
            }
            return String.join("\r\n", lines);
        }
    }
}
