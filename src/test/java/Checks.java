import java.nio.charset.StandardCharsets;
import java.util.Arrays;

/** What the tests share: putting a tape in, taking tape and text out, and telling what is not as due. */
final class Checks {
    private static int made = 0;
    private static int wrong = 0;
    private static String sentence = "";
    private static int madeAhead = 0;

    private Checks() {
    }

    interface Call {
        int answer();
    }

    /** What follows tests these words of the document, each side of their boundary by a check at least. */
    static void sentence(String words) {
        endSentence();
        sentence = words;
        madeAhead = made;
    }

    private static void endSentence() {
        if (!sentence.isEmpty() && made - madeAhead < 2) {
            wrong++;
            System.out.println("fewer than two checks for: " + sentence);
        }
    }

    static void due(String what, long got, long want) {
        made++;
        if (got != want) {
            tell(what, Long.toString(got), Long.toString(want));
        }
    }

    static void due(String what, String got, String want) {
        made++;
        if (!got.equals(want)) {
            tell(what, shown(got), shown(want));
        }
    }

    static void dueRow(String what, int[] got, int... want) {
        made++;
        if (!Arrays.equals(got, want)) {
            tell(what, Arrays.toString(got), Arrays.toString(want));
        }
    }

    static void dueThrow(String what, Class<? extends RuntimeException> want, Call call) {
        made++;
        String got;
        try {
            got = Integer.toString(call.answer());
        } catch (RuntimeException e) {
            got = e.getClass().getSimpleName();
        }
        if (!got.equals(want.getSimpleName())) {
            tell(what, got, want.getSimpleName());
        }
    }

    static void finish() {
        endSentence();
        System.out.println(made + " checks, " + wrong + " wrong");
        if (wrong != 0 || made == 0) {
            System.exit(1);
        }
    }

    /** A new object with these bytes as its tape. */
    static MailCharacters withTape(int... bytes) {
        MailCharacters x = new MailCharacters();
        add(x, bytes);
        return x;
    }

    static MailCharacters withTape(String latin1) {
        return withTape(bytesOf(latin1));
    }

    /** A new object with this text, by way of UTF8. */
    static MailCharacters withText(String text) {
        MailCharacters x = withTape(unsigned(text.getBytes(StandardCharsets.UTF_8)));
        x.read(4);
        return x;
    }

    static void add(MailCharacters x, String latin1) {
        add(x, bytesOf(latin1));
    }

    static void add(MailCharacters x, int... bytes) {
        for (int from = 0; from < bytes.length; from += 20) {
            int n = Math.min(20, bytes.length - from);
            int[] five = new int[5];
            for (int k = 0; k < n; k++) {
                five[k / 4] |= bytes[from + k] << 24 - k % 4 * 8;
            }
            x.feed(five[0], five[1], five[2], five[3], five[4]);
            if (x.end(n) == MailCharacters.NONE) {
                throw new IllegalStateException("the tape took no more");
            }
        }
    }

    /** The tape, and the places just beside it; of a long one both ends, as an object is good for 512 calls alone. */
    static void dueTape(String what, MailCharacters x, String want) {
        due(what + ", count(0)", x.count(0), want.length());
        for (int k = 0; k < want.length(); k++) {
            if (k < 120 || k >= want.length() - 120) {
                due(what + ", byteAt(" + k + ")", x.byteAt(k), want.charAt(k));
            }
        }
        due(what + ", byte ahead of the first", x.byteAt(-1), MailCharacters.NONE);
        due(what + ", byte behind the last", x.byteAt(want.length()), MailCharacters.NONE);
    }

    static void dueText(String what, MailCharacters x, int... want) {
        due(what + ", count(1)", x.count(1), want.length);
        for (int k = 0; k < want.length; k++) {
            if (k < 120 || k >= want.length - 120) {
                due(what + ", at(" + k + ")", x.at(k), want[k]);
            }
        }
        due(what + ", count(2)", x.count(2), Arrays.stream(want).filter(c -> c == 65533).count());
        due(what + ", character ahead of the first", x.at(-1), MailCharacters.NONE);
        due(what + ", character behind the last", x.at(want.length), MailCharacters.NONE);
    }

    /** An object with something in each of its three rows: ready bytes, tape and text. */
    static MailCharacters holding(String tape) {
        MailCharacters x = withTape(233, 65, 200);
        x.read(0);
        add(x, tape);
        x.feed(0x52454144, 0x59000000, 0, 0, 0);
        return x;
    }

    /** That a refused call left all three rows of such an object as they were. */
    static void dueHeld(String what, MailCharacters x, String tape) {
        dueTape(what + ", the tape stays", x, tape);
        dueText(what + ", the text stays", x, 65533, 65, 65533);
        if (tape.length() <= 1495) {
            due(what + ", the ready bytes come", x.end(5), tape.length() + 5);
            dueTape(what + ", the ready bytes stayed", x, tape + "READY");
        }
    }

    static int[] tape(MailCharacters x) {
        int[] bytes = new int[x.count(0)];
        for (int k = 0; k < bytes.length; k++) {
            bytes[k] = x.byteAt(k);
        }
        return bytes;
    }

    static int[] text(MailCharacters x) {
        int[] characters = new int[x.count(1)];
        for (int k = 0; k < characters.length; k++) {
            characters[k] = x.at(k);
        }
        return characters;
    }

    /** The tape, each byte a character. */
    static String tapeString(MailCharacters x) {
        int[] bytes = tape(x);
        return new String(bytes, 0, bytes.length);
    }

    static String textString(MailCharacters x) {
        int[] characters = text(x);
        return new String(characters, 0, characters.length);
    }

    static int[] bytesOf(String latin1) {
        return unsigned(latin1.getBytes(StandardCharsets.ISO_8859_1));
    }

    static int[] unsigned(byte[] bytes) {
        int[] row = new int[bytes.length];
        for (int k = 0; k < row.length; k++) {
            row[k] = bytes[k] & 255;
        }
        return row;
    }

    static byte[] signed(int[] row) {
        byte[] bytes = new byte[row.length];
        for (int k = 0; k < row.length; k++) {
            bytes[k] = (byte) row[k];
        }
        return bytes;
    }

    private static void tell(String what, String got, String want) {
        wrong++;
        System.out.println(what + ": got " + got + ", due is " + want
                + (sentence.isEmpty() ? "" : " (" + sentence + ")"));
    }

    static String shown(String s) {
        StringBuilder b = new StringBuilder("\"");
        s.codePoints().forEach(c -> {
            if (c >= 32 && c < 127) {
                b.appendCodePoint(c);
            } else {
                b.append('<').append(c).append('>');
            }
        });
        return b.append('"').toString();
    }
}
