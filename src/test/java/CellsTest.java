/** Promises 1 to 6: a new object, cell, strip, ofCell, reading, even. */
public final class CellsTest {
    private static final int UNKNOWN = -1, OUTSIDE = -2, STATE = -3;
    private static final Due DUE = new Due("CellsTest");

    public static void main(String[] args) {
        newObject();
        objectsShareNothing();
        cell();
        cellRefusals();
        strip();
        stripsStay();
        leastSpan();
        stripRefusals();
        ofCell();
        reading();
        even();
        evenRefusals();
        DUE.end();
    }

    private static void newObject() {
        PageLines x = new PageLines();
        int[] many = {0, 0, 0, 36, 0, 0};
        for (int i = 0; i < many.length; i++) DUE.is("1 many " + i, x.many(i), many[i]);
        int[] head = {996, 0, 0, 0, 0, 0, 0, 0};
        for (int i = 0; i < head.length; i++) DUE.is("1 head " + i, x.head(i), head[i]);
        int[] ofCell = {0, 64, 0, 255, 1};
        for (int colour = 0; colour < 3; colour++) {
            for (int k = 0; k < 12; k++) {
                for (int i = 0; i < 5; i++) DUE.is("1 ofCell " + i, x.ofCell(colour, k, i), ofCell[i]);
                DUE.is("1 light", x.light(colour, k, 0, 0), 255);
                DUE.is("1 whole", x.whole(0, colour, k), 255);
            }
        }
        for (int k = 0; k < 12; k++) DUE.is("1 speck", x.speck(k, 0), 0);
        DUE.is("1 ground", x.ground(255), 255);
        DUE.is("1 threshold", x.threshold(128), 128);
        DUE.is("1 lead 1", x.lead(1, 0), 0);
        DUE.is("1 lead 2", x.lead(2, 0), 0);
        DUE.is("1 piped", x.piped(9), 9);
        DUE.is("1 take", x.take(), STATE);
        DUE.is("1 stop", x.stop(), STATE);
        DUE.is("1 dark", x.dark(0), UNKNOWN);
        DUE.is("1 streaks", x.streaks(), 0);
        DUE.is("1 skew", x.skew(0), Long.MIN_VALUE);
    }

    private static void objectsShareNothing() {
        PageLines a = new PageLines();
        PageLines b = new PageLines();
        a.cell(0, 0, 5, 5);
        a.ground(1);
        a.patch(0, 1, 0, 1, 0);
        a.pipe(0, 0);
        a.begin(4);
        DUE.is("1 other's cell", b.ofCell(0, 0, 0), 0);
        DUE.is("1 other's ground", b.light(0, 0, 9, 0), 255);
        DUE.is("1 other's patches", b.many(0), 0);
        DUE.is("1 other's steps", b.many(1), 0);
        DUE.is("1 other's scan", b.head(6), 0);
    }

    private static void cell() {
        PageLines x = new PageLines();
        DUE.is("2 cell least", x.cell(0, 0, 0, 0), 1);
        DUE.is("2 cell most", x.cell(2, 11, 63, 127), 1);
        DUE.is("2 offset", x.ofCell(2, 11, 0), 63);
        DUE.is("2 gain", x.ofCell(2, 11, 1), 127);
        DUE.is("2 gain least", x.ofCell(0, 0, 1), 0);
        DUE.is("2 neighbour", x.ofCell(2, 10, 0), 0);
        DUE.is("2 other colour", x.ofCell(1, 11, 1), 64);
        x.begin(1);
        DUE.is("2 in a scan", x.cell(0, 0, 1, 1), STATE);
        x.stop();
        DUE.is("2 behind a scan", x.cell(0, 0, 1, 1), 1);
        DUE.is("2 behind a scan, offset", x.ofCell(0, 0, 0), 1);
    }

    private static void cellRefusals() {
        PageLines x = new PageLines();
        x.begin(1);
        int[][] noCell = {{-1, 0}, {3, 0}, {0, -1}, {0, 12}, {Integer.MIN_VALUE, 0}, {1, Integer.MAX_VALUE}};
        for (int[] c : noCell) {
            DUE.is("2 unknown first", x.cell(c[0], c[1], 64, 128), UNKNOWN);
            DUE.is("4 unknown", x.ofCell(c[0], c[1], 0), UNKNOWN);
            DUE.is("4 unknown first", x.ofCell(c[0], c[1], 5), UNKNOWN);
            DUE.is("5 unknown first", x.reading(c[0], c[1], 256), UNKNOWN);
            DUE.is("6 unknown first", x.even(c[0], c[1], 256), UNKNOWN);
        }
        int[][] wrong = {{-1, 0}, {64, 0}, {0, -1}, {0, 128}, {Integer.MAX_VALUE, 0}, {0, Integer.MIN_VALUE}};
        for (int[] w : wrong) DUE.is("2 outside ahead of state", x.cell(0, 0, w[0], w[1]), OUTSIDE);
        DUE.is("2 refusals change nothing", x.ofCell(0, 0, 1), 64);
    }

    private static void strip() {
        PageLines x = new PageLines();
        x.cell(0, 0, 10, 32);
        x.cell(1, 5, 0, 0);
        x.cell(2, 3, 63, 127);
        DUE.is("3 bright", x.strip(1), 35);
        DUE.is("3 BRIGHT", x.ofCell(0, 0, 3), 137);
        DUE.is("3 BRIGHT of none", x.ofCell(1, 5, 3), 0);
        DUE.is("3 BRIGHT at most", x.ofCell(2, 3, 3), 255);
        DUE.is("3 DARK not yet", x.ofCell(0, 0, 2), 0);
        DUE.is("3 dark", x.strip(0), 35);
        DUE.is("3 DARK", x.ofCell(0, 0, 2), 10);
        DUE.is("3 DARK most", x.ofCell(2, 3, 2), 63);
        DUE.is("3 not live", x.ofCell(1, 5, 4), 0);
        x.speck(0, 200);
        x.ground(3);
        x.strip(1);
        DUE.is("3 strips have no specks and no page", x.ofCell(0, 0, 3), 137);
    }

    private static void stripsStay() {
        PageLines x = new PageLines();
        x.cell(0, 0, 10, 32);
        x.strip(0);
        x.strip(1);
        x.cell(0, 0, 63, 0);
        DUE.is("3 DARK stays", x.ofCell(0, 0, 2), 10);
        DUE.is("3 BRIGHT stays", x.ofCell(0, 0, 3), 137);
        DUE.is("3 stays live", x.many(3), 36);
        DUE.is("3 dark alone", x.strip(0), 36);
        DUE.is("3 BRIGHT as it was", x.ofCell(0, 0, 3), 137);
        DUE.is("3 DARK anew", x.ofCell(0, 0, 2), 63);
        DUE.is("3 not live then", x.strip(1), 35);
    }

    private static void leastSpan() {
        PageLines x = new PageLines();
        x.cell(0, 0, 15, 0);
        x.cell(0, 1, 16, 0);
        DUE.is("3 live by 16 at least", x.strip(1), 35);
        DUE.is("4 span 15", x.ofCell(0, 0, 4), 0);
        DUE.is("4 span 16", x.ofCell(0, 1, 4), 1);
        DUE.is("3 DARK above BRIGHT", x.strip(0), 34);
        x.cell(0, 1, 0, 0);
        DUE.is("3 BRIGHT below DARK", x.strip(1), 34);
        DUE.is("4 BRIGHT below DARK", x.ofCell(0, 1, 4), 0);
    }

    private static void stripRefusals() {
        PageLines x = new PageLines();
        x.begin(1);
        DUE.is("3 outside first", x.strip(2), OUTSIDE);
        DUE.is("3 outside below", x.strip(-1), OUTSIDE);
        DUE.is("3 state dark", x.strip(0), STATE);
        DUE.is("3 state bright", x.strip(1), STATE);
        x.stop();
        DUE.is("3 no scan", x.strip(0), 36);
        DUE.is("3 outside", x.strip(Integer.MAX_VALUE), OUTSIDE);
    }

    private static void ofCell() {
        PageLines x = new PageLines();
        x.cell(1, 2, 7, 90);
        int[] first = {7, 90, 0, 255, 1};
        for (int i = 0; i < 5; i++) DUE.is("4 ofCell " + i, x.ofCell(1, 2, i), first[i]);
        x.strip(0);
        x.cell(1, 2, 8, 16);
        x.strip(1);
        int[] then = {8, 16, 7, 71, 1};
        for (int i = 0; i < 5; i++) DUE.is("4 ofCell then " + i, x.ofCell(1, 2, i), then[i]);
        DUE.is("4 what 5", x.ofCell(1, 2, 5), OUTSIDE);
        DUE.is("4 what -1", x.ofCell(1, 2, -1), OUTSIDE);
        x.begin(3);
        DUE.is("4 in a scan", x.ofCell(1, 2, 1), 16);
    }

    private static void reading() {
        PageLines x = new PageLines();
        x.cell(0, 0, 10, 32);
        x.cell(0, 1, 63, 127);
        x.cell(0, 2, 5, 0);
        DUE.is("5 dark", x.reading(0, 0, 0), 10);
        DUE.is("5 cut down to 0", x.reading(0, 0, 1), 10);
        DUE.is("5 one", x.reading(0, 0, 2), 11);
        DUE.is("5 cut down", x.reading(0, 0, 255), 137);
        DUE.is("5 cut down, gain 127", x.reading(0, 1, 1), 64);
        DUE.is("5 just below the most", x.reading(0, 1, 96), 253);
        DUE.is("5 the most", x.reading(0, 1, 97), 255);
        DUE.is("5 at most", x.reading(0, 1, 255), 255);
        DUE.is("5 no gain", x.reading(0, 2, 255), 5);
        DUE.is("5 plain", x.reading(2, 11, 200), 200);
        DUE.is("5 outside above", x.reading(0, 0, 256), OUTSIDE);
        DUE.is("5 outside below", x.reading(0, 0, -1), OUTSIDE);
        x.begin(1);
        DUE.is("5 in a scan", x.reading(0, 0, 2), 11);
    }

    private static void even() {
        PageLines x = new PageLines();
        x.cell(0, 0, 43, 32);
        x.strip(1);
        DUE.is("6 BRIGHT 170", x.ofCell(0, 0, 3), 170);
        DUE.is("6 a half goes up", x.even(0, 0, 1), 2);
        DUE.is("6 a half above", x.even(0, 0, 3), 5);
        DUE.is("6 whole", x.even(0, 0, 2), 3);
        DUE.is("6 at BRIGHT", x.even(0, 0, 170), 255);
        DUE.is("6 above BRIGHT", x.even(0, 0, 171), 255);
        DUE.is("6 far above BRIGHT", x.even(0, 0, 255), 255);
        x.strip(0);
        DUE.is("6 below DARK", x.even(0, 0, 42), 0);
        DUE.is("6 far below DARK", x.even(0, 0, 0), 0);
        DUE.is("6 at DARK", x.even(0, 0, 43), 0);
        DUE.is("6 255 by 127 down", x.even(0, 0, 44), 2);
        DUE.is("6 32 times 255 by 127", x.even(0, 0, 75), 64);
        x.cell(0, 0, 0, 0);
        DUE.is("6 by the strips, not by the cell", x.even(0, 0, 75), 64);
        x.begin(1);
        DUE.is("6 in a scan", x.even(1, 1, 77), 77);
    }

    private static void evenRefusals() {
        PageLines x = new PageLines();
        x.cell(1, 1, 0, 0);
        x.strip(1);
        DUE.is("6 not live", x.even(1, 1, 0), STATE);
        DUE.is("6 outside ahead of state", x.even(1, 1, 256), OUTSIDE);
        DUE.is("6 outside below", x.even(1, 1, -1), OUTSIDE);
        DUE.is("6 outside of a live one", x.even(0, 0, Integer.MIN_VALUE), OUTSIDE);
    }
}
