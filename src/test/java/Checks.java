import java.nio.charset.StandardCharsets;

// What the tests share: counting wrong answers, and typing texts.
final class Checks {
    private static int wrong = 0;
    private static int asked = 0;

    private Checks() { }

    static void due(String call, long got, long want) {
        asked++;
        if (got == want) return;
        wrong++;
        System.out.println(call + " answered " + got + ", due is " + want);
    }

    static void holds(String what, boolean really) {
        due(what, really ? 1 : 0, 1);
    }

    static boolean anyWrong() {
        return wrong > 0;
    }

    static void end() {
        System.out.println(asked + " asked, " + wrong + " wrong");
        if (wrong > 0 || asked == 0) System.exit(1);
    }

    /** Types a text, as many bytes at once as may be. */
    static void type(SmokeTalk x, String text) {
        byte[] bytes = text.getBytes(StandardCharsets.ISO_8859_1);
        for (int i = 0; i < bytes.length; i += 8) {
            int n = Math.min(8, bytes.length - i);
            long v = 0;
            for (int j = 0; j < n; j++) v = v << 8 | bytes[i + j] & 255;
            if (x.type(v, n) < 0) {
                wrong++;
                System.out.println("could not type: " + text);
            }
        }
    }

    /** What valley() answers to a text. */
    static int tell(SmokeTalk x, String text) {
        type(x, text);
        return x.valley();
    }

    /** A new object to which a good text is told. */
    static SmokeTalk told(String text) {
        SmokeTalk x = new SmokeTalk();
        holds("told: " + text, tell(x, text) >= 0);
        return x;
    }
}
