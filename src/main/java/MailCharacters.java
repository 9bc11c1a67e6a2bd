/**
 * Bytes of mail made to characters: transfer codings, charsets and encoded words, and back to bytes.
 *
 * <p>All rows are made with the object and used again by every call, so that no call makes an object.
 */
public final class MailCharacters {
    public static final int NONE = -1;

    private static final int MOST_BYTES = 1500;
    private static final int MOST_CHARACTERS = 3000;
    private static final int MOST_READY = 20;
    private static final int BAD = 65533;

    private static final int PLAIN = 0;
    private static final int BASE64 = 1;
    private static final int QUOTED = 2;
    private static final int HEXED = 3;

    private static final int ASCII = 0;
    private static final int LATIN1 = 1;
    private static final int LATIN9 = 2;
    private static final int WINDOWS = 3;
    private static final int UTF8 = 4;
    private static final int UTF16 = 5;
    private static final int UTF16BE = 6;
    private static final int UTF16LE = 7;
    private static final int KOI = 8;
    private static final int UTF7 = 9;

    private static final int TAB = 9;
    private static final int LF = 10;
    private static final int CR = 13;
    private static final int SPACE = 32;

    private final int[] ready = new int[MOST_READY / 4];
    private final Row text = new Row(MOST_CHARACTERS);
    private final Uncoder uncoder = new Uncoder();
    private final Coder coder = new Coder();
    private final Reader reader = new Reader();
    private final Writer writer = new Writer();
    private final Word word = new Word();
    private Row tape = new Row(MOST_BYTES);
    private Row spare = new Row(MOST_BYTES);

    public MailCharacters() {
    }

    public void feed(int a, int b, int c, int d, int e) {
        ready[0] = a;
        ready[1] = b;
        ready[2] = c;
        ready[3] = d;
        ready[4] = e;
    }

    public int end(int n) {
        if (n < 0 || n > MOST_READY || n > tape.room()) {
            return NONE;
        }
        for (int k = 0; k < n; k++) {
            tape.put(ready[k / 4] >> (24 - k % 4 * 8) & 255);
        }
        feed(0, 0, 0, 0, 0);
        return tape.size();
    }

    public int charset() {
        int found = Names.charsetOf(tape, 0, tape.size());
        tape.empty();
        return found;
    }

    public int uncode(int coding) throws IllegalArgumentException {
        if (coding < PLAIN || coding > HEXED) {
            throw new IllegalArgumentException("no such coding");
        }
        if (coding != PLAIN) {
            spare.empty();
            uncoder.uncodeInto(tape, coding, spare);
            swapTapes();
        }
        return tape.size();
    }

    public int read(int charset) throws IllegalArgumentException {
        if (!isCharset(charset)) {
            throw new IllegalArgumentException("no such charset");
        }
        text.empty();
        reader.readInto(tape, 0, tape.size(), charset, text);
        tape.empty();
        return text.size();
    }

    public int words() {
        text.empty();
        int size = tape.size();
        int plainFrom = 0;
        boolean behindWord = false;
        for (int i = 0; i < size; i++) {
            if (i < plainFrom || !word.standsAt(tape, i)) {
                continue;
            }
            if (!behindWord || !isBlank(plainFrom, i)) {
                reader.readInto(tape, plainFrom, i, UTF8, text);
            }
            readWord();
            plainFrom = word.next;
            behindWord = true;
        }
        reader.readInto(tape, plainFrom, size, UTF8, text);
        tape.empty();
        return text.size();
    }

    public int write(int charset) throws IllegalArgumentException {
        if (!isCharset(charset)) {
            throw new IllegalArgumentException("no such charset");
        }
        tape.empty();
        writer.writeInto(text, charset, tape);
        return tape.size();
    }

    public int code(int coding) throws IllegalArgumentException, IllegalStateException {
        if (coding != BASE64 && coding != QUOTED) {
            throw new IllegalArgumentException("not a coding to be made");
        }
        spare.empty();
        coder.codeInto(tape, coding, spare);
        if (spare.over) {
            throw new IllegalStateException("more bytes than the tape takes");
        }
        swapTapes();
        return tape.size();
    }

    public int byteAt(int k) {
        return tape.get(k);
    }

    public int at(int k) {
        return text.get(k);
    }

    public int count(int what) {
        switch (what) {
            case 0:
                return tape.size();
            case 1:
                return text.size();
            case 2:
                return text.countOf(BAD);
            default:
                return NONE;
        }
    }

    private static boolean isCharset(int charset) {
        return charset >= ASCII && charset <= UTF7;
    }

    private void swapTapes() {
        Row old = tape;
        tape = spare;
        spare = old;
    }

    private boolean isBlank(int from, int to) {
        for (int i = from; i < to; i++) {
            int b = tape.get(i);
            if (b != SPACE && b != TAB && b != CR && b != LF) {
                return false;
            }
        }
        return true;
    }

    private void readWord() {
        spare.empty();
        uncoder.uncodeWord(tape, word, spare);
        reader.readInto(spare, 0, spare.size(), word.charset, text);
    }

    /** A row of numbers that lets nothing in beyond its length, and remembers that it had to. */
    private static final class Row {
        private final int[] cells;
        private int size;
        private boolean over;

        Row(int most) {
            cells = new int[Math.max(0, most)];
        }

        void empty() {
            size = 0;
            over = false;
        }

        void put(int value) {
            if (size >= 0 && size < cells.length) {
                cells[size] = value;
                size++;
            } else {
                over = true;
            }
        }

        int get(int k) {
            return k >= 0 && k < size && k < cells.length ? cells[k] : NONE;
        }

        int size() {
            return size;
        }

        int room() {
            return cells.length - size;
        }

        int countOf(int value) {
            int found = 0;
            for (int k = 0; k < size; k++) {
                if (get(k) == value) {
                    found++;
                }
            }
            return found;
        }
    }

    /** Bits that come in one width and go in another; at most 21 wait at a time, older ones are shifted away. */
    private static final class Bits {
        private int value;
        private int held;

        void clear() {
            value = 0;
            held = 0;
        }

        void add(int more, int width) {
            value = value << width | more;
            held += width;
        }

        boolean has(int width) {
            return held >= width;
        }

        int take(int width) {
            held -= width;
            return value >> held & (1 << width) - 1;
        }

        /** Fills what is left over up with bits 0. */
        void fillUp(int width) {
            if (held > 0 && held < width) {
                add(0, width - held);
            }
        }
    }

    /** The letters of BASE64 and the hexadecimal digits. */
    private static final class Letters {
        private static final String DIGITS = "0123456789ABCDEF";

        private Letters() {
        }

        static int sixBitsOf(int b) {
            if (b >= 'A' && b <= 'Z') {
                return b - 'A';
            }
            if (b >= 'a' && b <= 'z') {
                return b - 'a' + 26;
            }
            if (b >= '0' && b <= '9') {
                return b - '0' + 52;
            }
            if (b == '+') {
                return 62;
            }
            return b == '/' ? 63 : NONE;
        }

        static int letterOf(int sixBits) {
            if (sixBits < 26) {
                return 'A' + sixBits;
            }
            if (sixBits < 52) {
                return 'a' + sixBits - 26;
            }
            if (sixBits < 62) {
                return '0' + sixBits - 52;
            }
            return sixBits == 62 ? '+' : '/';
        }

        static int hexOf(int b) {
            if (b >= '0' && b <= '9') {
                return b - '0';
            }
            if (b >= 'A' && b <= 'F') {
                return b - 'A' + 10;
            }
            return b >= 'a' && b <= 'f' ? b - 'a' + 10 : NONE;
        }

        static int digitOf(int fourBits) {
            return DIGITS.charAt(fourBits & 15);
        }
    }

    /** The names of the charsets. */
    private static final class Names {
        private Names() {
        }

        static int charsetOf(Row in, int from, int to) {
            for (int charset = ASCII; charset <= UTF7; charset++) {
                if (isOneOf(in, from, to, namesOf(charset))) {
                    return charset;
                }
            }
            return NONE;
        }

        /** A charset's names, a blank behind each. */
        private static String namesOf(int charset) {
            switch (charset) {
                case ASCII:
                    return "us-ascii ascii iso646-us ansi_x3.4-1968 cp367 ";
                case LATIN1:
                    return "iso-8859-1 iso8859-1 latin1 l1 cp819 ";
                case LATIN9:
                    return "iso-8859-15 iso8859-15 latin9 latin-9 ";
                case WINDOWS:
                    return "windows-1252 cp1252 x-cp1252 ";
                case UTF8:
                    return "utf-8 utf8 ";
                case UTF16:
                    return "utf-16 utf16 ";
                case UTF16BE:
                    return "utf-16be ";
                case UTF16LE:
                    return "utf-16le ";
                case KOI:
                    return "koi8-r koi8r ";
                case UTF7:
                    return "utf-7 utf7 ";
                default:
                    return "";
            }
        }

        private static boolean isOneOf(Row in, int from, int to, String names) {
            int start = 0;
            for (int i = 0; i < names.length(); i++) {
                if (names.charAt(i) == ' ') {
                    if (to - from == i - start && goesOnAs(in, from, names, start, i)) {
                        return true;
                    }
                    start = i + 1;
                }
            }
            return false;
        }

        private static boolean goesOnAs(Row in, int from, String names, int start, int stop) {
            for (int i = start; i < stop && i < names.length(); i++) {
                if (small(in.get(from + i - start)) != names.charAt(i)) {
                    return false;
                }
            }
            return true;
        }

        private static int small(int b) {
            return b >= 'A' && b <= 'Z' ? b + 32 : b;
        }
    }

    /** Steps through the lines of a row of bytes. */
    private static final class Line {
        private int from;
        private int to;
        private boolean ended;
        private int next;

        void goToStart() {
            next = 0;
        }

        boolean step(Row in) {
            if (next >= in.size()) {
                return false;
            }
            from = next;
            to = in.size();
            for (int i = from; i < in.size(); i++) {
                if (in.get(i) == LF) {
                    to = i;
                    break;
                }
            }
            ended = to < in.size();
            next = to + 1;
            if (ended && to > from && in.get(to - 1) == CR) {
                to--;
            }
            return true;
        }

        /** A start holds no line's end, so a shorter line differs from it at its own end. */
        boolean begins(Row in, String start) {
            for (int k = 0; k < start.length(); k++) {
                if (in.get(from + k) != start.charAt(k)) {
                    return false;
                }
            }
            return true;
        }

        int length() {
            return to - from;
        }
    }

    /** Takes the codings of bytes away. */
    private static final class Uncoder {
        private static final String BEGIN = "begin ";
        private static final String END = "end";

        private final Bits bits = new Bits();
        private final Line line = new Line();

        void uncodeInto(Row in, int coding, Row out) {
            if (coding == BASE64) {
                unbase(in, 0, in.size(), out);
            } else if (coding == QUOTED) {
                unquoteLines(in, out);
            } else {
                unhexLines(in, out);
            }
        }

        void uncodeWord(Row in, Word word, Row out) {
            if (word.based) {
                unbase(in, word.from, word.to, out);
            } else {
                unquote(in, word.from, word.to, true, out);
            }
        }

        /** Fewer than eight bits left over at the end are just what the document makes nothing. */
        private void unbase(Row in, int from, int to, Row out) {
            bits.clear();
            for (int i = from; i < to; i++) {
                int b = in.get(i);
                if (b == '=') {
                    return;
                }
                int sixBits = Letters.sixBitsOf(b);
                if (sixBits != NONE) {
                    bits.add(sixBits, 6);
                }
                if (bits.has(8)) {
                    out.put(bits.take(8));
                }
            }
        }

        private void unquoteLines(Row in, Row out) {
            line.goToStart();
            for (int turn = 0; turn < in.size() && line.step(in); turn++) {
                int to = withoutBlanks(in, line.from, line.to);
                boolean goesOn = to > line.from && in.get(to - 1) == '=';
                unquote(in, line.from, goesOn ? to - 1 : to, false, out);
                if (line.ended && !goesOn) {
                    out.put(CR);
                    out.put(LF);
                }
            }
        }

        private static int withoutBlanks(Row in, int from, int to) {
            for (int i = to; i > from; i--) {
                int b = in.get(i - 1);
                if (b != SPACE && b != TAB) {
                    return i;
                }
            }
            return from;
        }

        private static void unquote(Row in, int from, int to, boolean inWord, Row out) {
            for (int i = from; i < to; i++) {
                int b = in.get(i);
                int high = b == '=' && i + 2 < to ? Letters.hexOf(in.get(i + 1)) : NONE;
                int low = high != NONE ? Letters.hexOf(in.get(i + 2)) : NONE;
                if (low != NONE) {
                    out.put(high * 16 + low);
                    i += 2;
                } else {
                    out.put(inWord && b == '_' ? SPACE : b);
                }
            }
        }

        private void unhexLines(Row in, Row out) {
            boolean begun = false;
            line.goToStart();
            for (int turn = 0; turn < in.size() && line.step(in); turn++) {
                if (!begun) {
                    begun = line.length() > BEGIN.length() && line.begins(in, BEGIN);
                } else if (endsHex(in)) {
                    return;
                } else {
                    unhexLine(in, out);
                }
            }
        }

        private boolean endsHex(Row in) {
            if (line.length() == 0 || line.length() == END.length() && line.begins(in, END)) {
                return true;
            }
            return hexValue(in.get(line.from)) == 0;
        }

        /** Goes on behind the line's end to the end of a part of four, with values 0. */
        private void unhexLine(Row in, Row out) {
            int wanted = hexValue(in.get(line.from));
            int others = line.length() - 1;
            int values = (others + 3) / 4 * 4;
            bits.clear();
            for (int k = 0; k < values && wanted > 0; k++) {
                bits.add(k < others ? hexValue(in.get(line.from + 1 + k)) : 0, 6);
                if (bits.has(8)) {
                    out.put(bits.take(8));
                    wanted--;
                }
            }
        }

        private static int hexValue(int b) {
            return b - 32 & 63;
        }
    }

    /** Makes the codings of bytes. */
    private static final class Coder {
        private static final int MOST_IN_LINE = 76;

        private final Bits bits = new Bits();
        private int inLine;

        void codeInto(Row in, int coding, Row out) {
            inLine = 0;
            if (coding == BASE64) {
                base(in, out);
            } else {
                quote(in, out);
            }
        }

        private void base(Row in, Row out) {
            bits.clear();
            for (int i = 0; i < in.size(); i++) {
                bits.add(in.get(i), 8);
                putLetter(out);
                if (bits.has(6)) {
                    putLetter(out);
                }
            }
            bits.fillUp(6);
            if (bits.has(6)) {
                putLetter(out);
            }
            // a line's length is a multiple of four: the = always stand in the last letter's line
            int missing = (4 - inLine % 4) % 4;
            for (int k = 0; k < missing; k++) {
                out.put('=');
            }
        }

        private void putLetter(Row out) {
            if (inLine == MOST_IN_LINE) {
                endLine(out);
            }
            out.put(Letters.letterOf(bits.take(6)));
            inLine++;
        }

        private void quote(Row in, Row out) {
            for (int i = 0; i < in.size(); i++) {
                if (isLineEnd(in, i)) {
                    endLine(out);
                    i++;
                } else {
                    quoteByte(in.get(i), isItself(in, i), out);
                }
            }
        }

        private void quoteByte(int b, boolean itself, Row out) {
            int width = itself ? 1 : 3;
            if (inLine + width + 1 > MOST_IN_LINE) {
                out.put('=');
                endLine(out);
            }
            if (itself) {
                out.put(b);
            } else {
                out.put('=');
                out.put(Letters.digitOf(b >> 4));
                out.put(Letters.digitOf(b));
            }
            inLine += width;
        }

        private void endLine(Row out) {
            out.put(CR);
            out.put(LF);
            inLine = 0;
        }

        private static boolean isLineEnd(Row in, int i) {
            return in.get(i) == CR && in.get(i + 1) == LF;
        }

        private static boolean isItself(Row in, int i) {
            int b = in.get(i);
            if (b == SPACE || b == TAB) {
                return i + 1 < in.size() && !isLineEnd(in, i + 1);
            }
            return b > SPACE && b <= 126 && b != '=';
        }
    }

    /** The charsets of one byte a character. */
    private static final class SingleBytes {
        /** Each byte of LATIN9 that is not itself, and its character. */
        private static final int[] LATIN9_PAIRS = {
            164, 8364, 166, 352, 168, 353, 180, 381, 184, 382, 188, 338, 189, 339, 190, 376
        };
        /** The characters of bytes 128 .. 159 of WINDOWS. */
        private static final int[] WINDOWS_ROW = {
            8364, BAD, 8218, 402, 8222, 8230, 8224, 8225, 710, 8240, 352, 8249, 338, BAD, 381, BAD,
            BAD, 8216, 8217, 8220, 8221, 8226, 8211, 8212, 732, 8482, 353, 8250, 339, BAD, 382, 376
        };
        /** The characters of bytes 192 .. 223 of KOI; those of 224 .. 255 are less by 32. */
        private static final int[] KOI_ROW = {
            1102, 1072, 1073, 1094, 1076, 1077, 1092, 1075, 1093, 1080, 1081, 1082, 1083, 1084, 1085, 1086,
            1087, 1103, 1088, 1089, 1090, 1091, 1078, 1074, 1100, 1099, 1079, 1096, 1101, 1097, 1095, 1098
        };

        private SingleBytes() {
        }

        static int characterOf(int charset, int b) {
            if (b < 128) {
                return b;
            }
            switch (charset) {
                case LATIN1:
                    return b;
                case LATIN9:
                    return latin9CharacterOf(b);
                case WINDOWS:
                    return b < 160 ? inRow(WINDOWS_ROW, b - 128) : b;
                case KOI:
                    return koiCharacterOf(b);
                default:
                    return BAD;
            }
        }

        static int byteOf(int charset, int c) {
            if (c < 128) {
                return c;
            }
            switch (charset) {
                case LATIN1:
                    return c < 256 ? c : '?';
                case LATIN9:
                    return latin9ByteOf(c);
                case WINDOWS:
                    return windowsByteOf(c);
                case KOI:
                    return koiByteOf(c);
                default:
                    return '?';
            }
        }

        private static int latin9CharacterOf(int b) {
            for (int k = 0; k + 1 < LATIN9_PAIRS.length; k += 2) {
                if (LATIN9_PAIRS[k] == b) {
                    return LATIN9_PAIRS[k + 1];
                }
            }
            return b;
        }

        private static int latin9ByteOf(int c) {
            for (int k = 0; k + 1 < LATIN9_PAIRS.length; k += 2) {
                if (LATIN9_PAIRS[k + 1] == c) {
                    return LATIN9_PAIRS[k];
                }
            }
            return c < 256 && latin9CharacterOf(c) == c ? c : '?';
        }

        /** BAD stands in the row for no character at all, so it has no byte. */
        private static int windowsByteOf(int c) {
            if (c >= 160 && c < 256) {
                return c;
            }
            int place = c == BAD ? NONE : placeIn(WINDOWS_ROW, c);
            return place == NONE ? '?' : 128 + place;
        }

        private static int koiCharacterOf(int b) {
            if (b >= 224) {
                return inRow(KOI_ROW, b - 224) - 32;
            }
            if (b >= 192) {
                return inRow(KOI_ROW, b - 192);
            }
            if (b == 163) {
                return 1105;
            }
            return b == 179 ? 1025 : BAD;
        }

        private static int koiByteOf(int c) {
            if (c == 1105) {
                return 163;
            }
            if (c == 1025) {
                return 179;
            }
            int small = placeIn(KOI_ROW, c);
            if (small != NONE) {
                return 192 + small;
            }
            int great = placeIn(KOI_ROW, c + 32);
            return great == NONE ? '?' : 224 + great;
        }

        private static int inRow(int[] row, int place) {
            return place >= 0 && place < row.length ? row[place] : BAD;
        }

        private static int placeIn(int[] row, int c) {
            for (int k = 0; k < row.length; k++) {
                if (row[k] == c) {
                    return k;
                }
            }
            return NONE;
        }
    }

    /** Makes bytes to characters. */
    private static final class Reader {
        private final Bits bits = new Bits();
        /** The first half of a pair that waits for its second; 0 if none waits, as always between two calls. */
        private int firstHalf;

        void readInto(Row in, int from, int to, int charset, Row text) {
            switch (charset) {
                case UTF8:
                    readUtf8(in, from, to, text);
                    break;
                case UTF16:
                    readUtf16Marked(in, from, to, text);
                    break;
                case UTF16BE:
                    readUtf16(in, from, to, true, text);
                    break;
                case UTF16LE:
                    readUtf16(in, from, to, false, text);
                    break;
                case UTF7:
                    readUtf7(in, from, to, text);
                    break;
                default:
                    readSingleBytes(in, from, to, charset, text);
            }
        }

        private static void readSingleBytes(Row in, int from, int to, int charset, Row text) {
            for (int i = from; i < to; i++) {
                text.put(SingleBytes.characterOf(charset, in.get(i)));
            }
        }

        private static void readUtf8(Row in, int from, int to, Row text) {
            int missing = 0;
            int character = 0;
            int lowest = 0;
            int highest = 0;
            for (int i = from; i < to; i++) {
                int b = in.get(i);
                if (missing > 0 && b >= lowest && b <= highest) {
                    character = character << 6 | b & 63;
                    lowest = 128;
                    highest = 191;
                    missing--;
                    if (missing == 0) {
                        text.put(character);
                    }
                    continue;
                }
                if (missing > 0) {
                    text.put(BAD);
                }
                missing = bytesBehind(b);
                character = b & 63 >> missing;
                lowest = lowestBehind(b);
                highest = highestBehind(b);
                if (missing == 0) {
                    text.put(b < 128 ? b : BAD);
                }
            }
            if (missing > 0) {
                text.put(BAD);
            }
        }

        private static int bytesBehind(int b) {
            if (b < 194 || b > 244) {
                return 0;
            }
            if (b < 224) {
                return 1;
            }
            return b < 240 ? 2 : 3;
        }

        private static int lowestBehind(int b) {
            if (b == 224) {
                return 160;
            }
            return b == 240 ? 144 : 128;
        }

        private static int highestBehind(int b) {
            if (b == 237) {
                return 159;
            }
            return b == 244 ? 143 : 191;
        }

        private void readUtf16Marked(Row in, int from, int to, Row text) {
            int first = to - from >= 2 ? in.get(from) : NONE;
            int second = to - from >= 2 ? in.get(from + 1) : NONE;
            if (first == 254 && second == 255) {
                readUtf16(in, from + 2, to, true, text);
            } else if (first == 255 && second == 254) {
                readUtf16(in, from + 2, to, false, text);
            } else {
                readUtf16(in, from, to, true, text);
            }
        }

        private void readUtf16(Row in, int from, int to, boolean higherFirst, Row text) {
            for (int i = from; i + 1 < to; i += 2) {
                int one = in.get(i);
                int other = in.get(i + 1);
                takeUnit(higherFirst ? one * 256 + other : other * 256 + one, text);
            }
            endUnits(text);
            if ((to - from) % 2 != 0) {
                text.put(BAD);
            }
        }

        private void readUtf7(Row in, int from, int to, Row text) {
            boolean inRun = false;
            boolean runEmpty = true;
            for (int i = from; i < to; i++) {
                int b = in.get(i);
                int sixBits = inRun ? Letters.sixBitsOf(b) : NONE;
                if (sixBits != NONE) {
                    takeSixBits(sixBits, text);
                    runEmpty = false;
                    continue;
                }
                boolean endsRun = inRun;
                endUnits(text);
                inRun = !endsRun && b == '+';
                if (inRun) {
                    bits.clear();
                    runEmpty = true;
                } else if (!endsRun || b != '-') {
                    text.put(b < 128 ? b : BAD);
                } else if (runEmpty) {
                    text.put('+');
                }
            }
            endUnits(text);
        }

        private void takeSixBits(int sixBits, Row text) {
            bits.add(sixBits, 6);
            if (bits.has(16)) {
                takeUnit(bits.take(16), text);
            }
        }

        private void takeUnit(int unit, Row text) {
            boolean isSecondHalf = unit >= 56320 && unit <= 57343;
            if (firstHalf != 0 && isSecondHalf) {
                text.put(65536 + (firstHalf - 55296) * 1024 + unit - 56320);
                firstHalf = 0;
                return;
            }
            endUnits(text);
            if (unit >= 55296 && unit <= 56319) {
                firstHalf = unit;
            } else {
                text.put(isSecondHalf ? BAD : unit);
            }
        }

        private void endUnits(Row text) {
            if (firstHalf != 0) {
                text.put(BAD);
                firstHalf = 0;
            }
        }
    }

    /** Makes characters to bytes, and ends ahead of what the row of bytes has no room for. */
    private static final class Writer {
        private final Bits bits = new Bits();

        void writeInto(Row text, int charset, Row out) {
            if (charset == UTF7) {
                writeUtf7(text, out);
                return;
            }
            if (charset == UTF16) {
                out.put(254);
                out.put(255);
            }
            for (int i = 0; i < text.size(); i++) {
                int c = text.get(i);
                if (out.room() < widthOf(c, charset)) {
                    return;
                }
                writeCharacter(c, charset, out);
            }
        }

        private static int widthOf(int c, int charset) {
            switch (charset) {
                case UTF8:
                    return utf8WidthOf(c);
                case UTF16:
                case UTF16BE:
                case UTF16LE:
                    return unitsOf(c) * 2;
                default:
                    return 1;
            }
        }

        private static int utf8WidthOf(int c) {
            if (c < 128) {
                return 1;
            }
            if (c < 2048) {
                return 2;
            }
            return c < 65536 ? 3 : 4;
        }

        private static int unitsOf(int c) {
            return c < 65536 ? 1 : 2;
        }

        /** Unit k of a character: itself, or the first (0) or second (1) half of its pair. */
        private static int unitOf(int c, int k) {
            if (unitsOf(c) == 1) {
                return c;
            }
            return k == 0 ? 55296 + (c - 65536 >> 10) : 56320 + (c - 65536 & 1023);
        }

        private static void writeCharacter(int c, int charset, Row out) {
            switch (charset) {
                case UTF8:
                    writeUtf8(c, out);
                    break;
                case UTF16:
                case UTF16BE:
                    writeUtf16(c, true, out);
                    break;
                case UTF16LE:
                    writeUtf16(c, false, out);
                    break;
                default:
                    out.put(SingleBytes.byteOf(charset, c));
            }
        }

        private static void writeUtf8(int c, Row out) {
            switch (utf8WidthOf(c)) {
                case 1:
                    out.put(c);
                    return;
                case 2:
                    out.put(192 | c >> 6);
                    break;
                case 3:
                    out.put(224 | c >> 12);
                    out.put(128 | c >> 6 & 63);
                    break;
                default:
                    out.put(240 | c >> 18);
                    out.put(128 | c >> 12 & 63);
                    out.put(128 | c >> 6 & 63);
            }
            out.put(128 | c & 63);
        }

        private static void writeUtf16(int c, boolean higherFirst, Row out) {
            for (int k = 0; k < unitsOf(c); k++) {
                int unit = unitOf(c, k);
                int higher = unit >> 8;
                int lower = unit & 255;
                out.put(higherFirst ? higher : lower);
                out.put(higherFirst ? lower : higher);
            }
        }

        private void writeUtf7(Row text, Row out) {
            int runEnd = 0;
            for (int i = 0; i < text.size(); i++) {
                if (i < runEnd) {
                    continue;
                }
                int c = text.get(i);
                runEnd = endOfRun(text, i);
                boolean isRun = runEnd > i;
                if (out.room() < (isRun ? widthOfRun(text, i, runEnd) : directWidthOf(c))) {
                    return;
                }
                if (isRun) {
                    writeRun(text, i, runEnd, out);
                } else {
                    writeDirectly(c, out);
                }
            }
        }

        private static int directWidthOf(int c) {
            return c == '+' ? 2 : 1;
        }

        private static void writeDirectly(int c, Row out) {
            out.put(c);
            if (c == '+') {
                out.put('-');
            }
        }

        private static boolean goesInRun(int c) {
            if (c == TAB || c == LF || c == CR) {
                return false;
            }
            return c < 32 || c > 126 || c == '\\' || c == '~';
        }

        /** From itself, if no RUN begins there. */
        private static int endOfRun(Row text, int from) {
            for (int i = from; i < text.size(); i++) {
                if (!goesInRun(text.get(i))) {
                    return i;
                }
            }
            return text.size();
        }

        /** With the + ahead and the - behind. */
        private static int widthOfRun(Row text, int from, int to) {
            int units = 0;
            for (int i = from; i < to; i++) {
                units += unitsOf(text.get(i));
            }
            return (units * 16 + 5) / 6 + 2;
        }

        private void writeRun(Row text, int from, int to, Row out) {
            out.put('+');
            bits.clear();
            for (int i = from; i < to; i++) {
                int c = text.get(i);
                for (int k = 0; k < unitsOf(c); k++) {
                    bits.add(unitOf(c, k), 16);
                    putLetters(out);
                }
            }
            bits.fillUp(6);
            putLetters(out);
            out.put('-');
        }

        /** At most 21 bits wait here: three letters. */
        private void putLetters(Row out) {
            for (int k = 0; k < 3 && bits.has(6); k++) {
                out.put(Letters.letterOf(bits.take(6)));
            }
        }
    }

    /** An encoded word: where its bytes stand, and how they are to be read. */
    private static final class Word {
        private int charset;
        private boolean based;
        private int from;
        private int to;
        private int next;

        boolean standsAt(Row in, int i) {
            if (in.get(i) != '=' || in.get(i + 1) != '?') {
                return false;
            }
            int nameEnd = endOfName(in, i + 2);
            if (!takesKind(in.get(nameEnd + 1)) || in.get(nameEnd + 2) != '?') {
                return false;
            }
            from = nameEnd + 3;
            to = endOfBytes(in, from);
            next = to + 2;
            if (in.get(to) != '?' || in.get(to + 1) != '=') {
                return false;
            }
            charset = Names.charsetOf(in, i + 2, starOrEnd(in, i + 2, nameEnd));
            return charset != NONE;
        }

        private boolean takesKind(int b) {
            based = b == 'B' || b == 'b';
            return based || b == 'Q' || b == 'q';
        }

        private static int endOfName(Row in, int from) {
            for (int i = from; i < in.size(); i++) {
                if (in.get(i) == '?') {
                    return i;
                }
            }
            return in.size();
        }

        private static int starOrEnd(Row in, int from, int to) {
            for (int i = from; i < to; i++) {
                if (in.get(i) == '*') {
                    return i;
                }
            }
            return to;
        }

        private static int endOfBytes(Row in, int from) {
            for (int i = from; i < in.size(); i++) {
                int b = in.get(i);
                if (b == '?' || b == SPACE || b == TAB) {
                    return i;
                }
            }
            return in.size();
        }
    }
}
