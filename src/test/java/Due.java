/** Counts the answers that are not as due, and prints each. */
final class Due {
    private final String test;
    private int wrong;
    private int all;

    Due(String test) {
        this.test = test;
    }

    void due(String call, long got, long want) {
        all++;
        if (got != want) {
            wrong++;
            System.out.println(test + ": " + call + " answered " + got + ", due is " + want);
        }
    }

    /** Prints the sum, and ends with exit code 1 if an answer was not as due. */
    void close() {
        System.out.println(test + ": " + all + " answers, " + wrong + " not as due");
        if (wrong != 0) {
            System.exit(1);
        }
    }

    /** Feeds a text's bytes, eight by eight. */
    static void feed(LettersThatCross x, String text) {
        for (int from = 0; from < text.length(); from += 8) {
            int n = Math.min(8, text.length() - from);
            long bytes = 0;
            for (int i = 0; i < n; i++) {
                bytes = bytes << 8 | text.charAt(from + i);
            }
            x.feed(bytes, n);
        }
    }

    /** What text() answers to a text on an empty tape. */
    static int text(LettersThatCross x, String text) {
        feed(x, text);
        return x.text();
    }
}
