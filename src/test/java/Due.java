import java.nio.charset.StandardCharsets;

/** Counts and prints the calls of a test whose answer is not the one that is due. */
final class Due {
    private static int calls;
    private static int wrong;
    private static int sentences;
    private static String sentence = "";
    private static int callsAhead;

    private Due() {
    }

    /** The test of one sentence of the document begins; that of the one ahead must have had a call. */
    static void sentence(String words) {
        endSentence();
        sentences++;
        sentence = "[" + words + "] ";
        callsAhead = calls;
    }

    private static void endSentence() {
        if (!sentence.isEmpty() && calls == callsAhead) {
            wrong++;
            System.out.println(sentence + "has no call");
        }
    }

    /** Whether the answer is the one that is due: where it is not, a dear call behind it can be left. */
    static boolean is(String call, long got, long want) {
        calls++;
        if (got != want) {
            wrong++;
            System.out.println(sentence + call + " answered " + got + ", due is " + want);
        }
        return got == want;
    }

    /** Calls of new objects that are BAD, each as a number is not as told. */
    static void bad(String what, Look.Call... made) {
        for (int i = 0; i < made.length; i++) {
            if (!is("bad " + what + " " + i, made[i].on(new ButterChurn()), ButterChurn.BAD)) {
                return;
            }
        }
    }

    /** Ends the test: exit code 1 if there was a wrong answer, or no call at all. */
    static void end(String test) {
        endSentence();
        String of = sentences > 0 ? sentences + " sentences, " : "";
        System.out.println(test + ": " + of + calls + " answers, " + wrong + " wrong");
        System.exit(wrong == 0 && calls > 0 ? 0 : 1);
    }

    /** Feeds a text, byte by byte as it stands, and cuts the blanks behind it off. */
    static void feed(ButterChurn x, String text) {
        feed(x, text.getBytes(StandardCharsets.ISO_8859_1));
    }

    static void feed(ButterChurn x, byte[] text) {
        for (int at = 0; at < text.length; at += 8) {
            x.feed(eight(text, at));
        }
        x.end(text.length);
    }

    static long eight(byte[] text, int at) {
        long v = 0;
        for (int i = at; i < at + 8; i++) {
            v = v << 8 | (i < text.length ? text[i] & 255 : 32);
        }
        return v;
    }

    /** A new object to which a text was told. */
    static ButterChurn told(String text) {
        ButterChurn x = new ButterChurn();
        feed(x, text);
        if (x.dairy() < 0) {
            is("dairy() of " + text + ", fault", x.fault(), 0);
        }
        return x;
    }

    /** A text is told: its answer, then its fault. */
    static void text(String text, int answer, int fault) {
        ButterChurn x = new ButterChurn();
        feed(x, text);
        is("dairy() of '" + text + "'", x.dairy(), answer);
        is("fault() of '" + text + "'", x.fault(), fault);
        is("count(3) behind '" + text + "'", x.count(3), 0);
    }
}
