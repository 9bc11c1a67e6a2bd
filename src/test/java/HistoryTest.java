import java.util.Random;

/** What a call answers depends on tape, text and ready bytes alone: a used object answers as a fresh one does. */
public final class HistoryTest {
    private static final String[] SCRAPS = {
        "=?utf-8?q?", "?=", "?= =?utf-16be?B?", "2D0", "3gA", "YQ", "Y", "+2D0", "+A", "=", "=4", "\u00c3", "\u00a9", "\u00f0\u009f",
        "\u00d8\u003d", "\u00de", "begin x\n", "#0V%T\n", "%0", "\n", "\r\n", " ", "end", "utf-8", "abc", "\u0080", "~"
    };
    private static final Random RANDOM = new Random(512);

    public static void main(String[] args) {
        for (int run = 0; run < 300; run++) {
            run();
        }
        Checks.finish();
    }

    private static void run() {
        MailCharacters used = new MailCharacters();
        int[] text = {};
        for (int turn = 0; turn < 40; turn++) {
            fillSome(used);
            int[] tape = Checks.tape(used);
            MailCharacters fresh = fresh(tape, text);
            int kind = RANDOM.nextInt(7);
            int argument = RANDOM.nextInt(12) - 1;
            String what = "call " + kind + " with " + argument;
            Checks.due(what, answer(used, kind, argument), answer(fresh, kind, argument));
            Checks.dueRow(what + ", tape", Checks.tape(used), Checks.tape(fresh));
            Checks.dueRow(what + ", text", Checks.text(used), Checks.text(fresh));
            text = Checks.text(used);
            if (used.count(0) > 400) {
                used.charset();
            }
        }
    }

    private static void fillSome(MailCharacters x) {
        int n = RANDOM.nextInt(8);
        for (int k = 0; k < n; k++) {
            Checks.add(x, SCRAPS[RANDOM.nextInt(SCRAPS.length)]);
        }
    }

    private static MailCharacters fresh(int[] tape, int[] text) {
        MailCharacters x = Checks.withText(new String(text, 0, text.length));
        Checks.add(x, tape);
        return x;
    }

    private static String answer(MailCharacters x, int kind, int argument) {
        try {
            switch (kind) {
                case 0: return "" + x.charset();
                case 1: return "" + x.uncode(argument % 5);
                case 2: return "" + x.read(argument);
                case 3: return "" + x.words();
                case 4: return "" + x.write(argument);
                case 5: return "" + x.code(argument % 4);
                default: return "" + x.end(argument * 2);
            }
        } catch (IllegalArgumentException | IllegalStateException e) {
            return e.getClass().getSimpleName();
        }
    }
}
