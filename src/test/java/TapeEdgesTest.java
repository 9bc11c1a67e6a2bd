/** The boundary cases that the document names for tape, text and ready bytes: Terms, promises 1, 2, 3, 10, 11, 12. */
public final class TapeEdgesTest {
    private static final int NONE = MailCharacters.NONE;
    private static final int FAR_LOW = Integer.MIN_VALUE;
    private static final int FAR_HIGH = Integer.MAX_VALUE;

    public static void main(String[] args) {
        tapeOfAtMost1500();
        whatWouldBeMore();
        textOfAtMost3000();
        noTapeNoText();
        highestFirst();
        readyBytesAtFirst();
        readyBytesBehindAnEnd();
        firstN();
        nOutsideOfItsRange();
        wouldHaveMoreThan1500();
        byteAt();
        at();
        counts();
        otherWhat();
        Checks.finish();
    }

    private static MailCharacters withBytes(int n) {
        return Checks.withTape("x".repeat(n));
    }

    private static void tapeOfAtMost1500() {
        Checks.sentence("There is a TAPE of bytes, at most 1500");
        for (int n : new int[] {1480, 1481, 1499, 1500}) {
            Checks.dueTape("a tape of " + n, withBytes(n), "x".repeat(n));
        }
        for (int n = 1; n <= 20; n++) {
            Checks.due("1500 and " + n, withBytes(1500).end(n), NONE);
        }
    }

    private static void whatWouldBeMore() {
        Checks.sentence("at most 3000 (what would be more is nothing)");
        dueUnquoted("x".repeat(1497) + "\n", "x".repeat(1497) + "\r\n");
        dueUnquoted("x".repeat(1498) + "\n", "x".repeat(1498) + "\r\n");
        dueUnquoted("x".repeat(1499) + "\n", "x".repeat(1499) + "\r");
        dueUnquoted("x".repeat(1500), "x".repeat(1500));
        dueUnquoted("\n" + "x".repeat(1498), "\r\n" + "x".repeat(1498));
        dueUnquoted("\n" + "x".repeat(1499), "\r\n" + "x".repeat(1498));
        dueUnquoted("\n" + "x".repeat(1495) + "=41y", "\r\n" + "x".repeat(1495) + "Ay");
        dueUnquoted("\n".repeat(4) + "x".repeat(1492) + "=41y", "\r\n".repeat(4) + "x".repeat(1492));
        dueUnquoted("\n".repeat(3) + "x".repeat(1493) + "=41y", "\r\n".repeat(3) + "x".repeat(1493) + "A");
        dueUnquoted("\n".repeat(749), "\r\n".repeat(749));
        dueUnquoted("\n".repeat(750), "\r\n".repeat(750));
        dueUnquoted("\n".repeat(751), "\r\n".repeat(750));
        dueUnquoted("\n".repeat(1500), "\r\n".repeat(750));
        MailCharacters x = withBytes(1499);
        Checks.add(x, "\n");
        x.uncode(2);
        Checks.due("a tape that was cut is full", x.end(1), NONE);
        Checks.due("and can be read", x.read(0), 1500);
        Checks.due("its last", x.at(1499), 13);
    }

    private static void dueUnquoted(String tape, String want) {
        MailCharacters x = Checks.withTape(tape);
        String what = "uncode(2) to " + want.length() + " of " + tape.length();
        Checks.due(what, x.uncode(2), want.length());
        Checks.dueTape(what, x, want);
    }

    /** No tape makes more than a character of a byte, so 1500 is the most that can be seen of the 3000. */
    private static void textOfAtMost3000() {
        Checks.sentence("and the TEXT, a row of characters, at most 3000");
        for (int charset : new int[] {0, 1, 2, 3, 4, 8, 9}) {
            for (int n : new int[] {1499, 1500}) {
                MailCharacters x = withBytes(n);
                Checks.due("read(" + charset + ") of " + n, x.read(charset), n);
                Checks.dueText("read(" + charset + ") of " + n, x, "x".repeat(n).chars().toArray());
            }
        }
        MailCharacters x = Checks.withTape("\u00ff".repeat(1500));
        Checks.due("words() of 1500 BAD ones", x.words(), 1500);
        Checks.due("all of them count", x.count(2), 1500);
    }

    private static void noTapeNoText() {
        Checks.sentence("No tape, no text.");
        MailCharacters x = new MailCharacters();
        Checks.dueTape("a new object", x, "");
        Checks.dueText("a new object", x);
        Checks.due("one byte then", x.end(1), 1);
        Checks.dueTape("one byte", x, "\0");
        x.read(0);
        Checks.dueText("one character", x, 0);
    }

    private static void highestFirst() {
        Checks.sentence("Puts twenty bytes ready, those of a first, the highest of each first.");
        for (int k = 0; k < 20; k++) {
            for (int value : new int[] {1, 127, 128, 255}) {
                int[] five = new int[5];
                five[k / 4] = value << 24 - k % 4 * 8;
                MailCharacters x = new MailCharacters();
                x.feed(five[0], five[1], five[2], five[3], five[4]);
                Checks.due("end(20)", x.end(20), 20);
                String zeros = "\0".repeat(20);
                Checks.dueTape("byte " + k + " is " + value, x,
                        zeros.substring(0, k) + (char) value + zeros.substring(k + 1));
            }
        }
        MailCharacters x = new MailCharacters();
        x.feed(FAR_LOW, FAR_HIGH, -1, 0, 1);
        x.end(20);
        Checks.dueTape("the least and the greatest numbers", x, "\u0080\0\0\0\u007f\u00ff\u00ff\u00ff"
                + "\u00ff\u00ff\u00ff\u00ff\0\0\0\0\0\0\0\u0001");
    }

    private static void readyBytesAtFirst() {
        Checks.sentence("(They are 0 at first");
        MailCharacters x = new MailCharacters();
        x.end(20);
        Checks.dueTape("no feed at all", x, "\0".repeat(20));
        x = new MailCharacters();
        x.feed(-1, -1, -1, -1, -1);
        x.end(20);
        Checks.dueTape("a feed", x, "\u00ff".repeat(20));
    }

    private static void readyBytesBehindAnEnd() {
        Checks.sentence("and behind each end() that answers a number.)");
        for (int n : new int[] {0, 1, 19, 20}) {
            MailCharacters x = new MailCharacters();
            x.feed(-1, -1, -1, -1, -1);
            Checks.due("end(" + n + ")", x.end(n), n);
            Checks.due("and twenty", x.end(20), n + 20);
            Checks.dueTape("0 behind end(" + n + ")", x, "\u00ff".repeat(n) + "\0".repeat(20));
        }
        for (int n : new int[] {-1, 21}) {
            MailCharacters x = new MailCharacters();
            x.feed(-1, -1, -1, -1, -1);
            Checks.due("end(" + n + ")", x.end(n), NONE);
            Checks.due("and twenty", x.end(20), 20);
            Checks.dueTape("not behind end(" + n + ")", x, "\u00ff".repeat(20));
        }
        MailCharacters x = withBytes(1490);
        x.feed(-1, -1, -1, -1, -1);
        Checks.due("too many", x.end(11), NONE);
        Checks.due("as many as go", x.end(10), 1500);
        Checks.dueTape("not behind one that would be too many", x, "x".repeat(1490) + "\u00ff".repeat(10));
        x.charset();
        Checks.due("and twenty", x.end(20), 20);
        Checks.dueTape("behind the one that goes", x, "\0".repeat(20));
    }

    private static void firstN() {
        Checks.sentence("The first n of the bytes that are ready come to the TAPE: how many it has.");
        String all = "abcdefghijklmnopqrst";
        for (int n = 0; n <= 20; n++) {
            MailCharacters x = Checks.withTape("12");
            x.feed(0x61626364, 0x65666768, 0x696a6b6c, 0x6d6e6f70, 0x71727374);
            Checks.due("end(" + n + ")", x.end(n), 2 + n);
            Checks.dueTape("end(" + n + ")", x, "12" + all.substring(0, n));
        }
    }

    private static void nOutsideOfItsRange() {
        Checks.sentence("NONE, and nothing comes, if n is not 0 .. 20");
        for (int n : new int[] {-2, -1, 21, 22, 1500, FAR_LOW, FAR_LOW + 1, FAR_HIGH - 1, FAR_HIGH}) {
            MailCharacters x = Checks.holding("tape");
            Checks.due("end(" + n + ")", x.end(n), NONE);
            Checks.dueHeld("end(" + n + ")", x, "tape");
        }
        for (int n : new int[] {0, 1, 19, 20}) {
            Checks.due("end(" + n + ")", Checks.holding("tape").end(n), 4 + n);
        }
    }

    private static void wouldHaveMoreThan1500() {
        Checks.sentence("or it would have more than 1500.");
        for (int size = 1480; size <= 1500; size++) {
            int room = 1500 - size;
            if (room < 20) {
                MailCharacters x = Checks.holding("x".repeat(size));
                Checks.due(size + " and " + (room + 1), x.end(room + 1), NONE);
                Checks.dueHeld(size + " and " + (room + 1), x, "x".repeat(size));
            }
            MailCharacters x = withBytes(size);
            Checks.due(size + " and " + room, x.end(room), 1500);
            Checks.dueTape(size + " and " + room, x, "x".repeat(size) + "\0".repeat(room));
        }
    }

    private static void byteAt() {
        Checks.sentence("Byte k of the TAPE; NONE.");
        MailCharacters x = Checks.withTape(0, 255, 128);
        Checks.due("the first", x.byteAt(0), 0);
        Checks.due("the one behind it", x.byteAt(1), 255);
        Checks.due("the last", x.byteAt(2), 128);
        dueNoBytes(x, 3);
        Checks.due("no tape", x.charset(), NONE);
        dueNoBytes(x, 0);
        x = withBytes(1500);
        Checks.due("the last of a full one", x.byteAt(1499), 'x');
        dueNoBytes(x, 1500);
        x = Checks.withTape("abcdef");
        x.uncode(1);
        Checks.due("the last of four", x.byteAt(3), 0x79);
        dueNoBytes(x, 4);
    }

    private static void dueNoBytes(MailCharacters x, int from) {
        for (int k : new int[] {-1, -2, from, from + 1, 1500, 1501, 3000, FAR_LOW, FAR_HIGH}) {
            Checks.due("byteAt(" + k + ")", x.byteAt(k), NONE);
        }
    }

    private static void at() {
        Checks.sentence("Character k of the TEXT; NONE.");
        MailCharacters x = Checks.withTape(0, 244, 143, 191, 191, 239, 191, 191);
        x.read(4);
        Checks.due("the first", x.at(0), 0);
        Checks.due("the one behind it", x.at(1), 1114111);
        Checks.due("the last", x.at(2), 65535);
        dueNoCharacters(x, 3);
        x.read(4);
        dueNoCharacters(x, 0);
        x = withBytes(1500);
        x.read(1);
        Checks.due("the last of the longest", x.at(1499), 'x');
        dueNoCharacters(x, 1500);
        Checks.add(x, "ab");
        x.words();
        Checks.due("the last of two behind a longer one", x.at(1), 'b');
        dueNoCharacters(x, 2);
    }

    private static void dueNoCharacters(MailCharacters x, int from) {
        for (int k : new int[] {-1, -2, from, from + 1, 1500, 2999, 3000, 3001, FAR_LOW, FAR_HIGH}) {
            Checks.due("at(" + k + ")", x.at(k), NONE);
        }
    }

    private static void counts() {
        Checks.sentence("How many bytes the TAPE (what = 0), characters the TEXT has (1), of these BAD ones (2).");
        dueCounts(new MailCharacters(), 0, 0, 0);
        dueCounts(Checks.withTape("a"), 1, 0, 0);
        dueCounts(Checks.holding("tape!"), 5, 3, 2);
        MailCharacters x = Checks.withTape(239, 191, 188, 239, 191, 189, 239, 191, 190);
        x.read(4);
        Checks.dueText("65532 to 65534", x, 65532, 65533, 65534);
        dueCounts(x, 0, 3, 1);
        x = Checks.withTape("\u00ff".repeat(1500));
        x.read(0);
        dueCounts(x, 0, 1500, 1500);
        x.read(0);
        dueCounts(x, 0, 0, 0);
    }

    private static void dueCounts(MailCharacters x, int bytes, int characters, int bad) {
        Checks.due("count(0)", x.count(0), bytes);
        Checks.due("count(1)", x.count(1), characters);
        Checks.due("count(2)", x.count(2), bad);
    }

    private static void otherWhat() {
        Checks.sentence("NONE for another what.");
        MailCharacters x = Checks.holding("tape!");
        for (int what : new int[] {-2, -1, 3, 4, FAR_LOW, FAR_HIGH}) {
            Checks.due("count(" + what + ")", x.count(what), NONE);
        }
        dueCounts(x, 5, 3, 2);
        Checks.dueHeld("count of another what", x, "tape!");
    }
}
