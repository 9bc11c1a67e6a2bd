/** Promises 2 feed, 3 end, 10 byteAt, 11 at, 12 count. */
public final class TapeTest {
    public static void main(String[] args) {
        feedAndEnd();
        refusedEnds();
        fullTape();
        places();
        counts();
        Checks.finish();
    }

    private static void feedAndEnd() {
        MailCharacters x = new MailCharacters();
        x.feed(0x01020304, 0x7f80ff00, -1, Integer.MIN_VALUE, 0x0a0b0c0d);
        Checks.due("feed alone brings nothing", x.count(0), 0);
        Checks.due("end(20)", x.end(20), 20);
        Checks.dueRow("bytes in their order", Checks.tape(x),
                1, 2, 3, 4, 127, 128, 255, 0, 255, 255, 255, 255, 128, 0, 0, 0, 10, 11, 12, 13);
        x.charset();
        Checks.due("end(20) again", x.end(20), 20);
        Checks.dueRow("ready bytes are 0 behind an end", Checks.tape(x), new int[20]);

        x = new MailCharacters();
        x.feed(0x41424344, 0x45464748, 0, 0, 0);
        x.feed(0x61626364, 0, 0, 0, 0);
        Checks.due("end(6)", x.end(6), 6);
        Checks.due("the second feed counts alone", Checks.tapeString(x), "abcd\0\0");

        x = new MailCharacters();
        x.feed(0x41424344, 0, 0, 0, 0);
        Checks.due("end(0)", x.end(0), 0);
        Checks.due("end(1)", x.end(1), 1);
        Checks.due("end(0) makes the ready bytes 0", x.byteAt(0), 0);
    }

    private static void refusedEnds() {
        MailCharacters x = new MailCharacters();
        x.feed(0x41424344, 0, 0, 0, 0);
        int[] refused = {-1, 21, 22, 1500, Integer.MAX_VALUE, Integer.MIN_VALUE};
        for (int n : refused) {
            Checks.due("end(" + n + ")", x.end(n), -1);
            Checks.due("nothing comes by end(" + n + ")", x.count(0), 0);
        }
        Checks.due("end(4)", x.end(4), 4);
        Checks.due("a refused end leaves the ready bytes", Checks.tapeString(x), "ABCD");
    }

    private static void fullTape() {
        MailCharacters x = new MailCharacters();
        for (int k = 1; k <= 74; k++) {
            Checks.due("end(20) time " + k, x.end(20), 20 * k);
        }
        Checks.due("end(19) to 1499", x.end(19), 1499);
        x.feed(0x41420000, 0, 0, 0, 0);
        Checks.due("end(2) would be 1501", x.end(2), -1);
        Checks.due("nothing came", x.count(0), 1499);
        Checks.due("end(1) to 1500", x.end(1), 1500);
        Checks.due("last byte", x.byteAt(1499), 65);
        Checks.due("end(1) would be 1501", x.end(1), -1);
        Checks.due("end(0) on a full tape", x.end(0), 1500);
        Checks.due("byteAt(1500)", x.byteAt(1500), -1);
        Checks.due("all 1500 are read", x.read(1), 1500);
        Checks.due("at(1499)", x.at(1499), 65);
        Checks.due("at(1500)", x.at(1500), -1);
    }

    private static void places() {
        MailCharacters x = Checks.withTape("ab");
        x.read(0);
        Checks.add(x, "cde");
        int[] none = {-1, Integer.MIN_VALUE, Integer.MAX_VALUE, 1500, 3000};
        for (int k : none) {
            Checks.due("byteAt(" + k + ")", x.byteAt(k), -1);
            Checks.due("at(" + k + ")", x.at(k), -1);
        }
        Checks.due("byteAt(0)", x.byteAt(0), 'c');
        Checks.due("byteAt(2)", x.byteAt(2), 'e');
        Checks.due("byteAt(3)", x.byteAt(3), -1);
        Checks.due("at(0)", x.at(0), 'a');
        Checks.due("at(1)", x.at(1), 'b');
        Checks.due("at(2)", x.at(2), -1);
        x.charset();
        Checks.due("byteAt(0) of an empty tape", x.byteAt(0), -1);
        x.read(0);
        Checks.due("at(0) of an empty text", x.at(0), -1);
    }

    private static void counts() {
        MailCharacters x = Checks.withTape(65, 200, 66, 201);
        Checks.due("read(0)", x.read(0), 4);
        Checks.add(x, "xyz");
        Checks.due("count(0)", x.count(0), 3);
        Checks.due("count(1)", x.count(1), 4);
        Checks.due("count(2)", x.count(2), 2);
        int[] others = {-1, 3, 4, Integer.MIN_VALUE, Integer.MAX_VALUE};
        for (int what : others) {
            Checks.due("count(" + what + ")", x.count(what), -1);
        }
        x = Checks.withTape(0xEF, 0xBF, 0xBD);
        x.read(4);
        Checks.due("65533 that was written is BAD too", x.count(2), 1);
    }
}
