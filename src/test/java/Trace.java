/** What the head does, tick by tick, as a text: its position, and . u r o b for REST, UP, READ, OUT, BACK. */
final class Trace {
    private static final String MODES = ".urob";

    private Trace() {
    }

    static String now(PageLines x) {
        return (x.head(0) - 1000) + MODES.substring(x.head(1), x.head(1) + 1);
    }

    /** Where the head is behind each of n ticks. */
    static String of(PageLines x, int n) {
        StringBuilder text = new StringBuilder();
        for (int i = 0; i < n; i++) {
            x.ticks(1);
            text.append(i > 0 ? " " : "").append(now(x));
        }
        return text.toString();
    }
}
