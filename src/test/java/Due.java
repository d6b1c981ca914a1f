/** Counts the answers that are not the ones that are due, and prints each. */
final class Due {
    private static int wrong = 0;

    private Due() {
    }

    static void is(String what, long got, long want) {
        if (got != want) {
            wrong++;
            System.out.println(what + " answered " + got + ", due is " + want);
        }
    }

    static void end(String test) {
        System.out.println(test + ": " + (wrong == 0 ? "all answers are as due" : wrong + " wrong"));
        if (wrong != 0) {
            System.exit(1);
        }
    }

    /** Feeds a text to the tape, eight bytes at most at once. */
    static void feed(NestsByKnots nests, String text) {
        for (int from = 0; from < text.length(); from += 8) {
            int n = Math.min(8, text.length() - from);
            long bytes = 0;
            for (int i = 0; i < n; i++) {
                bytes |= (text.charAt(from + i) & 255L) << (8 * i);
            }
            nests.feed(n, bytes);
        }
    }

    /** What text() answers for a text. */
    static int text(NestsByKnots nests, String text) {
        feed(nests, text);
        return nests.text();
    }

    /** A new object by a text as its rule. */
    static NestsByKnots ruled(String text) {
        NestsByKnots nests = new NestsByKnots();
        is("text \"" + text + "\"", text(nests, text), 1);
        is("force(1)", nests.force(1), 0);
        return nests;
    }
}
