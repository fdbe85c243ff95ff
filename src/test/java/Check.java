/** Counts answers that are due, and tells those that are not. */
public final class Check {
    private static int passed;
    private static int failed;

    private Check() { }

    public static void due(String call, long got, long want) {
        if (got == want) {
            passed++;
        } else {
            failed++;
            System.out.println("  " + call + " answered " + got + ", due is " + want);
        }
    }

    static void holds(String what, boolean so) {
        due(what, so ? 1 : 0, 1);
    }

    /** A text on the tape; the answers of feed() are looked at elsewhere. */
    static void feed(GetsOutFirst x, String text) {
        for (int i = 0; i < text.length(); i++) {
            x.feed(text.charAt(i));
        }
    }

    /** A text that becomes the rule. */
    static void rule(GetsOutFirst x, String text) {
        feed(x, text);
        int number = x.text();
        holds("'" + text + "' is a text", number > 0);
        x.force(number);
    }

    static void end(String test) {
        System.out.println(test + ": " + passed + " passed, " + failed + " failed");
        if (failed != 0) {
            System.exit(1);
        }
    }
}
