import java.util.ArrayList;
import java.util.List;

/**
 * An object brought to a state by the same calls each time it is made, with what is known of that
 * state; and everything that can be asked of an object, so that two of them can be compared.
 * Making and asking together stay below the 512 calls that the document gives an object.
 */
record Scene(String name, int patches, int steps, int lines, int taken, boolean on) {
    static final int DEAD_COLOUR = 1, DEAD_COLUMN = 9;

    static final List<Scene> ALL = List.of(
        new Scene("new", 0, 0, 0, 0, false),
        new Scene("set, no scan yet", 3, 1, 0, 0, false),
        new Scene("page and pipe full, all lines taken", 12, 4, 7, 7, false),
        new Scene("page and pipe empty, scan begun", 0, 0, 5, 0, true),
        new Scene("page, pipe and queue full, scan on", 12, 4, 40, 2, true),
        new Scene("one line taken, scan on", 11, 3, 20, 1, true),
        new Scene("broken off", 1, 2, 12, 3, false));

    boolean isNew() {
        return lines == 0 && patches == 0;
    }

    /** All lines of a scene look alike: columns 1 and 2 are dark, with two patches 5 to 7 are, too. */
    int runs() {
        return Math.min(2, patches);
    }

    int edges() {
        return patches > 0 ? taken : 0;
    }

    PageLines make() {
        PageLines x = new PageLines();
        if (isNew()) return x;
        for (int i = 0; i < patches; i++) {
            if (i == 1) x.patch(0, 63, 5, 7, 0);
            else x.patch(0, 63, 1, 2, 0);
        }
        x.tint(patches - 1, 1, 9);
        // MORE 0 leaves a value as it is, the two NEGATIVES of a full pipe undo one another
        for (int i = 0; i < steps; i++) x.pipe(steps == 4 && i >= 2 ? 0 : 2, 0);
        x.cell(DEAD_COLOUR, DEAD_COLUMN, 3, 0);
        x.cell(2, 4, 12, 70);
        x.strip(1);
        x.ground(220);
        x.speck(4, 30);
        x.threshold(100);
        x.lead(1, 5);
        x.lead(2, 2);
        if (lines > 0) scan(x);
        return x;
    }

    private void scan(PageLines x) {
        x.begin(lines);
        if (taken == 0) return;
        // REACH is 2: one tick to UP, four in UP, two to read the positions ahead of the first whole line
        x.ticks(7);
        for (int i = 0; i < taken; i++) {
            x.ticks(1);
            x.take();
        }
        if (on && patches == 12) x.ticks(200);
        if (!on && taken < lines) x.stop();
    }

    /** The answers to all that can be asked; the object is of no use behind it. */
    static long[] askAll(PageLines x) {
        List<Long> told = new ArrayList<>();
        askState(x, told);
        askLines(x, told);
        for (int n : new int[] {0, 1, 3, 0, 9, 50}) {
            told.add((long) x.ticks(n));
            askHead(x, told);
            told.add((long) x.take());
        }
        askLines(x, told);
        told.add((long) x.stop());
        askHead(x, told);
        askSettings(x, told);
        return told.stream().mapToLong(Long::longValue).toArray();
    }

    private static void askHead(PageLines x, List<Long> told) {
        for (int i = 0; i < 8; i++) told.add((long) x.head(i));
    }

    private static void askState(PageLines x, List<Long> told) {
        askHead(x, told);
        for (int i = 0; i < 6; i++) told.add((long) x.many(i));
        for (int colour = 0; colour < 3; colour++) {
            for (int k : new int[] {0, 4, 9, 11}) {
                for (int i = 0; i < 4; i++) told.add((long) x.ofCell(colour, k, i));
                told.add((long) x.light(colour, k, 63, 1));
            }
            told.add((long) x.whole(39, colour, 11));
        }
        for (int v : new int[] {0, 100, 255}) told.add((long) x.piped(v));
    }

    private static void askLines(PageLines x, List<Long> told) {
        for (int y = 0; y < 8; y++) {
            told.add((long) x.pixel(y, 0, 0));
            told.add((long) x.grey(y, 4));
            told.add((long) x.dark(y));
        }
        told.add((long) x.run(0, 1, 1));
        told.add((long) x.edge(0));
        told.add(x.skew(0));
        told.add(x.skew(1));
        for (int k = 3; k < 6; k++) told.add((long) x.longest(k));
        told.add((long) x.streaks());
    }

    /** What is told only by the calls that change it. */
    private static void askSettings(PageLines x, List<Long> told) {
        told.add((long) x.ground(0));
        told.add((long) x.threshold(0));
        told.add((long) x.lead(1, 0));
        told.add((long) x.lead(2, 0));
        for (int k = 0; k < 12; k++) told.add((long) x.speck(k, 0));
        for (int i = 0; i < 4; i++) {
            told.add((long) x.unpipe(0));
            told.add((long) x.piped(77));
        }
        for (int p = 0; p < 12; p++) {
            for (int colour = 0; colour < 3; colour++) told.add((long) x.tint(p, colour, 1));
        }
        told.add((long) x.blank());
    }
}
