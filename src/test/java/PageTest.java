/** Promises 7 to 12: ground, patch, tint, blank, speck, light. */
public final class PageTest {
    private static final int UNKNOWN = -1, OUTSIDE = -2, STATE = -3, FULL = -4;
    private static final Due DUE = new Due("PageTest");

    public static void main(String[] args) {
        ground();
        patch();
        patchEdges();
        patchRefusals();
        slantDown();
        slantUp();
        lastPatchWins();
        tint();
        blank();
        speck();
        light();
        lightRefusals();
        DUE.end();
    }

    private static void ground() {
        PageLines x = new PageLines();
        DUE.is("7 first", x.ground(0), 255);
        DUE.is("7 then", x.ground(255), 0);
        DUE.is("7 middle", x.ground(100), 255);
        DUE.is("7 seen", x.light(2, 11, 500, 3), 100);
        x.begin(1);
        DUE.is("7 state", x.ground(5), STATE);
        DUE.is("7 outside first", x.ground(256), OUTSIDE);
        x.stop();
        DUE.is("7 outside below", x.ground(-1), OUTSIDE);
        DUE.is("7 outside", x.ground(Integer.MAX_VALUE), OUTSIDE);
        DUE.is("7 unchanged", x.ground(100), 100);
    }

    private static void patch() {
        PageLines x = new PageLines();
        DUE.is("8 first", x.patch(2, 3, 4, 6, 0), 0);
        for (int row = 0; row < 6; row++) {
            for (int k = 0; k < 12; k++) {
                boolean covered = row >= 2 && row <= 3 && k >= 4 && k <= 6;
                DUE.is("8 light " + row + " " + k, x.light(1, k, row, 0), covered ? 0 : 255);
            }
        }
        for (int i = 1; i < 12; i++) DUE.is("8 number", x.patch(0, 0, 0, 0, 0), i);
        DUE.is("8 full", x.patch(0, 0, 0, 0, 0), FULL);
        DUE.is("8 outside ahead of full", x.patch(0, 64, 0, 0, 0), OUTSIDE);
        x.begin(1);
        DUE.is("8 state ahead of full", x.patch(0, 0, 0, 0, 0), STATE);
        x.stop();
        DUE.is("8 all", x.many(0), 12);
    }

    private static void patchEdges() {
        PageLines x = new PageLines();
        DUE.is("8 widest", x.patch(0, 63, 0, 11, 16), 0);
        DUE.is("8 narrowest", x.patch(63, 63, 11, 11, -16), 1);
        DUE.is("8 first row", x.patch(0, 0, 0, 0, 0), 2);
    }

    private static void patchRefusals() {
        PageLines x = new PageLines();
        x.begin(1);
        int[][] wrong = {
            {-1, 0, 0, 0, 0}, {1, 0, 0, 0, 0}, {0, 64, 0, 0, 0}, {64, 64, 0, 0, 0},
            {0, 0, -1, 0, 0}, {0, 0, 3, 2, 0}, {0, 0, 0, 12, 0}, {0, 0, 12, 12, 0},
            {0, 0, 0, 0, 17}, {0, 0, 0, 0, -17}, {0, 0, 0, 0, Integer.MIN_VALUE},
            {Integer.MIN_VALUE, 0, 0, 0, 0}, {0, Integer.MAX_VALUE, 0, 0, 0}};
        for (int[] w : wrong) DUE.is("8 outside ahead of state", x.patch(w[0], w[1], w[2], w[3], w[4]), OUTSIDE);
        DUE.is("8 state", x.patch(0, 0, 0, 0, 0), STATE);
        x.stop();
        for (int[] w : wrong) DUE.is("8 outside", x.patch(w[0], w[1], w[2], w[3], w[4]), OUTSIDE);
        DUE.is("8 none came", x.many(0), 0);
    }

    /** The only column that a patch of one column covers in a row; 12 if it covers none. */
    private static int covered(PageLines x, int row) {
        int column = 12;
        for (int k = 0; k < 12; k++) {
            if (x.light(0, k, row, 0) == 0) column = k;
        }
        return column;
    }

    private static void slantDown() {
        PageLines x = new PageLines();
        x.patch(10, 40, 5, 5, -1);
        int[] rows = {9, 10, 11, 18, 19, 26, 27, 40, 41};
        int[] columns = {12, 5, 4, 4, 3, 3, 2, 1, 12};
        for (int i = 0; i < rows.length; i++) DUE.is("8 slant -1 in row " + rows[i], covered(x, rows[i]), columns[i]);
        x.blank();
        x.patch(0, 20, 11, 11, -16);
        DUE.is("8 slant -16", covered(x, 1), 9);
        DUE.is("8 slant -16, last", covered(x, 5), 1);
        DUE.is("8 off the page", covered(x, 6), 12);
    }

    private static void slantUp() {
        PageLines x = new PageLines();
        x.patch(10, 40, 5, 5, 3);
        int[] rows = {10, 12, 13, 15, 16, 18, 26, 28, 29};
        int[] columns = {5, 5, 6, 6, 7, 8, 11, 11, 12};
        for (int i = 0; i < rows.length; i++) DUE.is("8 slant 3 in row " + rows[i], covered(x, rows[i]), columns[i]);
        x.blank();
        x.patch(0, 20, 0, 0, 16);
        DUE.is("8 slant 16", covered(x, 1), 2);
    }

    private static void lastPatchWins() {
        PageLines x = new PageLines();
        x.patch(0, 9, 0, 5, 0);
        x.patch(5, 9, 4, 8, 0);
        x.tint(0, 0, 30);
        x.tint(1, 0, 70);
        DUE.is("8 first alone", x.light(0, 4, 4, 0), 30);
        DUE.is("8 both", x.light(0, 4, 5, 0), 70);
        DUE.is("8 second alone", x.light(0, 8, 5, 0), 70);
        DUE.is("8 neither", x.light(0, 9, 5, 0), 255);
        DUE.is("8 a tint of 0 covers", x.light(1, 4, 5, 0), 0);
    }

    private static void tint() {
        PageLines x = new PageLines();
        DUE.is("9 no patch", x.tint(0, 0, 1), UNKNOWN);
        x.patch(0, 5, 0, 11, 0);
        DUE.is("9 was 0", x.tint(0, 2, 255), 0);
        DUE.is("9 was 255", x.tint(0, 2, 40), 255);
        DUE.is("9 another colour", x.tint(0, 1, 50), 0);
        DUE.is("9 seen 2", x.light(2, 0, 1, 0), 40);
        DUE.is("9 seen 1", x.light(1, 0, 1, 0), 50);
        DUE.is("9 seen 0", x.light(0, 0, 1, 0), 0);
        x.begin(1);
        DUE.is("9 state", x.tint(0, 0, 1), STATE);
        DUE.is("9 outside ahead of state", x.tint(0, 0, 256), OUTSIDE);
        DUE.is("9 patch first", x.tint(1, 0, 256), UNKNOWN);
        DUE.is("9 colour first", x.tint(0, 3, 256), UNKNOWN);
        x.stop();
        DUE.is("9 patch below", x.tint(-1, 0, 1), UNKNOWN);
        DUE.is("9 colour below", x.tint(0, -1, 1), UNKNOWN);
        DUE.is("9 outside below", x.tint(0, 0, -1), OUTSIDE);
        DUE.is("9 far patch", x.tint(Integer.MAX_VALUE, 0, 1), UNKNOWN);
        DUE.is("9 unchanged", x.tint(0, 0, 0), 0);
    }

    private static void blank() {
        PageLines x = new PageLines();
        DUE.is("10 none", x.blank(), 0);
        x.patch(0, 5, 0, 11, 0);
        x.patch(0, 5, 0, 11, 0);
        for (int colour = 0; colour < 3; colour++) x.tint(0, colour, 99);
        x.begin(1);
        DUE.is("10 state", x.blank(), STATE);
        x.stop();
        DUE.is("10 two", x.blank(), 2);
        DUE.is("10 no more", x.many(0), 0);
        DUE.is("10 the ground is seen", x.light(1, 0, 0, 0), 255);
        DUE.is("10 unknown then", x.tint(0, 1, 1), UNKNOWN);
        DUE.is("10 numbers from 0 again", x.patch(0, 5, 0, 11, 0), 0);
        for (int colour = 0; colour < 3; colour++) DUE.is("10 tints are 0 again", x.tint(0, colour, 1), 0);
        x.ground(7);
        x.blank();
        DUE.is("10 the ground stays", x.light(0, 0, 0, 0), 7);
    }

    private static void speck() {
        PageLines x = new PageLines();
        DUE.is("11 first", x.speck(3, 55), 0);
        DUE.is("11 then", x.speck(3, 255), 55);
        DUE.is("11 most", x.light(0, 3, 0, 0), 0);
        DUE.is("11 back", x.speck(3, 100), 255);
        for (int colour = 0; colour < 3; colour++) DUE.is("11 all colours", x.light(colour, 3, 0, 0), 155);
        DUE.is("11 neighbour", x.light(0, 4, 0, 0), 255);
        x.ground(99);
        DUE.is("11 at least 0", x.light(0, 3, 0, 0), 0);
        x.begin(1);
        DUE.is("11 state", x.speck(3, 1), STATE);
        DUE.is("11 outside ahead of state", x.speck(3, 256), OUTSIDE);
        DUE.is("11 unknown first", x.speck(12, 256), UNKNOWN);
        x.stop();
        DUE.is("11 unknown below", x.speck(-1, 0), UNKNOWN);
        DUE.is("11 outside below", x.speck(0, -1), OUTSIDE);
        DUE.is("11 last column", x.speck(11, 1), 0);
        DUE.is("11 unchanged", x.speck(3, 0), 100);
    }

    private static void light() {
        PageLines x = new PageLines();
        x.patch(0, 0, 0, 11, 0);
        int[] ahead = {255, 191, 128, 64};
        int[] behind = {0, 64, 128, 191};
        for (int q = 0; q < 4; q++) {
            DUE.is("12 towards a patch " + q, x.light(0, 0, -1, q), ahead[q]);
            DUE.is("12 behind a patch " + q, x.light(0, 0, 0, q), behind[q]);
        }
        x.speck(0, 128);
        DUE.is("12 speck behind the mean", x.light(0, 0, -1, 1), 63);
        DUE.is("12 speck just covers", x.light(0, 0, -1, 2), 0);
        DUE.is("12 speck more than covers", x.light(0, 0, -1, 3), 0);
        DUE.is("12 first row", x.light(0, 1, -1000, 0), 255);
        DUE.is("12 last row", x.light(2, 11, 1000, 3), 255);
        x.tint(0, 1, 254);
        DUE.is("12 quarter goes down", x.light(1, 1, 0, 1), 254);
        DUE.is("12 half goes up", x.light(1, 1, 0, 2), 255);
        x.begin(1);
        DUE.is("12 in a scan", x.light(1, 1, 0, 0), 254);
    }

    private static void lightRefusals() {
        PageLines x = new PageLines();
        DUE.is("12 colour", x.light(3, 0, 1001, 4), UNKNOWN);
        DUE.is("12 colour below", x.light(-1, 0, 0, 0), UNKNOWN);
        DUE.is("12 column", x.light(0, 12, 0, 0), UNKNOWN);
        DUE.is("12 column below", x.light(0, -1, 0, 0), UNKNOWN);
        DUE.is("12 row above", x.light(0, 0, 1001, 0), OUTSIDE);
        DUE.is("12 row below", x.light(0, 0, -1001, 0), OUTSIDE);
        DUE.is("12 quarter above", x.light(0, 0, 0, 4), OUTSIDE);
        DUE.is("12 quarter below", x.light(0, 0, 0, -1), OUTSIDE);
        DUE.is("12 far row", x.light(0, 0, Integer.MAX_VALUE, 0), OUTSIDE);
    }
}
