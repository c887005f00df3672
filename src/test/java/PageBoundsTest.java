/**
 * The sentences of 'Terms', section 2, that name a boundary case, one method each: the empty and the
 * full page, first and last rows and columns of a patch, what is cut down and rounded, specks.
 */
public final class PageBoundsTest {
    private static final int UNKNOWN = -1, OUTSIDE = -2, STATE = -3, FULL = -4;
    private static final Due DUE = new Due("PageBoundsTest");

    public static void main(String[] args) {
        emptyPage();
        fullPage();
        fullPageIsBlankedAndFilled();
        rowsOfAPatch();
        columnsOfAPatch();
        rowsAndColumnsInOrder();
        slantIsCutDown();
        slantFromTheFirstRow();
        slantBeyondTheColumns();
        tintsAtTheirEnds();
        lastPatchThatCovers();
        groundAtItsEnds();
        rowsBelow0AndBeyondThePage();
        quartersAreRounded();
        quartersJoinTwoRows();
        speckIs0AtLeast();
        specksOfTheEnds();
        stripsHaveNoSpecks();
        refusedInAScanOnly();
        DUE.end();
    }

    private static void emptyPage() {
        PageLines x = new PageLines();
        DUE.is("10 no patches", x.blank(), 0);
        DUE.is("10 still none", x.blank(), 0);
        DUE.is("32 none", x.many(0), 0);
        DUE.is("9 there is no patch 0", x.tint(0, 0, 0), UNKNOWN);
        DUE.is("12 the ground everywhere", x.light(2, 11, 63, 3), 255);
    }

    private static void fullPage() {
        PageLines x = new PageLines();
        for (int i = 0; i < 12; i++) {
            DUE.is("9 patch " + i + " is not there yet", x.tint(i, 2, 1), UNKNOWN);
            DUE.is("8 number", x.patch(i, i, i, i, 0), i);
            DUE.is("9 but then", x.tint(i, 2, 10 + i), 0);
        }
        DUE.is("8 a thirteenth", x.patch(50, 50, 0, 11, 0), FULL);
        DUE.is("8 it did not come", x.many(0), 12);
        DUE.is("8 nor is it seen", x.light(0, 0, 50, 0), 255);
        DUE.is("9 patch 12", x.tint(12, 0, 1), UNKNOWN);
        for (int i = 0; i < 12; i++) {
            DUE.is("8 each in its place", x.light(2, i, i, 0), 10 + i);
            DUE.is("9 each keeps its tints", x.tint(i, 2, 255), 10 + i);
        }
    }

    private static void fullPageIsBlankedAndFilled() {
        PageLines x = new PageLines();
        for (int i = 0; i < 12; i++) x.patch(0, 63, 0, 11, 0);
        for (int colour = 0; colour < 3; colour++) x.tint(11, colour, 200);
        DUE.is("10 twelve", x.blank(), 12);
        DUE.is("9 the last is no more", x.tint(11, 0, 1), UNKNOWN);
        DUE.is("9 the first is no more", x.tint(0, 0, 1), UNKNOWN);
        for (int i = 0; i < 12; i++) DUE.is("8 from 0 on again", x.patch(0, 63, 0, 11, 0), i);
        for (int colour = 0; colour < 3; colour++) DUE.is("9 0 at first", x.tint(11, colour, 1), 0);
        DUE.is("8 full again", x.patch(0, 63, 0, 11, 0), FULL);
    }

    private static void rowsOfAPatch() {
        int[][] patches = {{0, 0}, {0, 63}, {63, 63}, {5, 9}, {62, 63}};
        for (int[] p : patches) {
            PageLines x = new PageLines();
            x.patch(p[0], p[1], 0, 11, 0);
            DUE.is("12 ahead of its rows", x.light(0, 0, p[0] - 1, 0), 255);
            DUE.is("12 its first row", x.light(0, 0, p[0], 0), 0);
            DUE.is("12 its last row", x.light(0, 0, p[1], 0), 0);
            DUE.is("12 behind its rows", x.light(0, 0, p[1] + 1, 0), 255);
        }
    }

    private static void columnsOfAPatch() {
        int[][] patches = {{0, 0}, {0, 11}, {11, 11}, {4, 7}, {10, 11}};
        for (int[] p : patches) {
            PageLines x = new PageLines();
            x.patch(0, 63, p[0], p[1], 0);
            for (int k = 0; k < 12; k++) {
                boolean covered = k >= p[0] && k <= p[1];
                DUE.is("12 column " + k, x.light(0, k, 30, 0), covered ? 0 : 255);
            }
        }
    }

    private static void rowsAndColumnsInOrder() {
        PageLines x = new PageLines();
        DUE.is("8 from = to", x.patch(20, 20, 3, 3, 0), 0);
        DUE.is("8 from is 1 more than to", x.patch(21, 20, 3, 3, 0), OUTSIDE);
        DUE.is("8 left = right", x.patch(20, 21, 3, 3, 0), 1);
        DUE.is("8 left is 1 more than right", x.patch(20, 21, 4, 3, 0), OUTSIDE);
        DUE.is("8 far apart", x.patch(Integer.MAX_VALUE, Integer.MIN_VALUE, 0, 0, 0), OUTSIDE);
        DUE.is("8 far apart, columns", x.patch(0, 0, Integer.MAX_VALUE, Integer.MIN_VALUE, 0), OUTSIDE);
        DUE.is("8 all as far as may be", x.patch(0, 63, 0, 11, 16), 2);
        DUE.is("8 all as far as may be, backwards", x.patch(63, 63, 11, 11, -16), 3);
        DUE.is("8 four came", x.many(0), 4);
    }

    /** The greatest whole number that is not above slant times rows by 8. */
    private static int shift(int slant, int rows) {
        int s = 200;
        while (8 * s > slant * rows) s--;
        return s;
    }

    private static void oneColumn(int from, int column, int slant, int firstRow, int rows) {
        PageLines x = new PageLines();
        x.patch(from, 63, column, column, slant);
        for (int row = firstRow; row < firstRow + rows && row <= 63; row++) {
            for (int k = 0; k < 12; k++) {
                boolean covered = k == column + shift(slant, row - from);
                DUE.is("8 slant " + slant + ", row " + row + ", column " + k, x.light(1, k, row, 0), covered ? 0 : 255);
            }
        }
    }

    private static void slantIsCutDown() {
        for (int slant = -16; slant <= 16; slant++) {
            oneColumn(0, slant < 0 ? 11 : 0, slant, 0, 32);
            oneColumn(0, slant < 0 ? 11 : 0, slant, 32, 32);
        }
    }

    private static void slantFromTheFirstRow() {
        for (int slant : new int[] {-16, -9, -8, -7, -1, 1, 7, 8, 9, 16}) oneColumn(7, 6, slant, 7, 32);
        PageLines x = new PageLines();
        x.patch(7, 40, 6, 6, -1);
        DUE.is("8 no shift in the first row", x.light(0, 6, 7, 0), 0);
        DUE.is("8 an eighth back is a whole one", x.light(0, 5, 8, 0), 0);
        DUE.is("8 eight eighths are the same one", x.light(0, 5, 15, 0), 0);
        DUE.is("8 nine are two", x.light(0, 4, 16, 0), 0);
        DUE.is("8 ahead of the first row there is no patch", x.light(0, 6, 6, 0), 255);
    }

    private static void slantBeyondTheColumns() {
        PageLines x = new PageLines();
        x.patch(0, 63, 0, 11, 16);
        DUE.is("8 slid by ten columns", x.light(0, 10, 5, 0), 0);
        DUE.is("8 the column ahead is free", x.light(0, 9, 5, 0), 255);
        DUE.is("8 slid by twelve", x.light(0, 11, 6, 0), 255);
        DUE.is("8 slid by 126", x.light(0, 11, 63, 0), 255);
        x.blank();
        x.patch(0, 63, 0, 11, -16);
        DUE.is("8 slid back by ten", x.light(0, 1, 5, 0), 0);
        DUE.is("8 the column behind is free", x.light(0, 2, 5, 0), 255);
        DUE.is("8 slid back by twelve", x.light(0, 0, 6, 0), 255);
        DUE.is("8 slid back by 126", x.light(0, 0, 63, 0), 255);
    }

    private static void tintsAtTheirEnds() {
        PageLines x = new PageLines();
        x.ground(100);
        x.patch(0, 63, 0, 11, 0);
        for (int colour = 0; colour < 3; colour++) {
            DUE.is("9 0 at first", x.tint(0, colour, 255), 0);
            DUE.is("9 255", x.light(colour, 0, 0, 0), 255);
            DUE.is("9 was 255", x.tint(0, colour, 0), 255);
            DUE.is("9 0", x.light(colour, 0, 0, 0), 0);
            DUE.is("9 256", x.tint(0, colour, 256), OUTSIDE);
            DUE.is("9 -1", x.tint(0, colour, -1), OUTSIDE);
            DUE.is("9 still 0", x.tint(0, colour, 0), 0);
        }
    }

    private static void lastPatchThatCovers() {
        PageLines x = new PageLines();
        for (int i = 0; i < 12; i++) {
            x.patch(i, 63, 0, 11 - i, 0);
            x.tint(i, 1, 100 + i);
        }
        for (int i = 0; i < 12; i++) {
            DUE.is("12 the last one of row " + i, x.light(1, 0, i, 0), 100 + i);
            DUE.is("12 the last one of column " + i, x.light(1, i, 63, 0), 111 - i);
        }
        DUE.is("12 a later one that does not cover is passed over", x.light(1, 11, 11, 0), 100);
        x.patch(0, 0, 0, 0, 0);
        DUE.is("12 one that did not come covers nothing", x.light(1, 0, 0, 0), 100);
    }

    private static void groundAtItsEnds() {
        PageLines x = new PageLines();
        DUE.is("7 255 at first", x.ground(0), 255);
        DUE.is("7 0 is seen", x.light(0, 0, 0, 3), 0);
        DUE.is("7 0 was", x.ground(255), 0);
        DUE.is("7 255 is seen", x.light(0, 0, 0, 3), 255);
        DUE.is("7 256", x.ground(256), OUTSIDE);
        DUE.is("7 -1", x.ground(-1), OUTSIDE);
        DUE.is("7 still 255", x.light(0, 0, 0, 0), 255);
    }

    private static void rowsBelow0AndBeyondThePage() {
        PageLines x = new PageLines();
        x.ground(50);
        x.patch(0, 63, 0, 11, 0);
        DUE.is("12 row -1000", x.light(0, 0, -1000, 0), 50);
        DUE.is("12 row -1001", x.light(0, 0, -1001, 0), OUTSIDE);
        DUE.is("12 row 1000, into row 1001", x.light(0, 0, 1000, 3), 50);
        DUE.is("12 row 1001", x.light(0, 0, 1001, 0), OUTSIDE);
        DUE.is("12 row -1", x.light(0, 0, -1, 0), 50);
        DUE.is("12 row -1, into row 0", x.light(0, 0, -1, 3), 13);
        DUE.is("12 row -2, into row -1", x.light(0, 0, -2, 3), 50);
        DUE.is("12 row 63, into row 64", x.light(0, 0, 63, 3), 38);
        DUE.is("12 row 63", x.light(0, 0, 63, 0), 0);
        DUE.is("12 row 62, into row 63", x.light(0, 0, 62, 3), 0);
        DUE.is("12 row 64", x.light(0, 0, 64, 0), 50);
        DUE.is("12 quarter 4", x.light(0, 0, 0, 4), OUTSIDE);
        DUE.is("12 quarter -1", x.light(0, 0, 0, -1), OUTSIDE);
    }

    private static void quartersAreRounded() {
        int[] numbers = {0, 1, 2, 3, 4, 127, 128, 252, 253, 254, 255};
        PageLines x = null;
        int asked = 0;
        for (int here : numbers) {
            for (int behind : numbers) {
                if (asked++ % 20 == 0) {
                    x = new PageLines();
                    x.patch(10, 10, 0, 11, 0);
                    x.patch(11, 11, 0, 11, 0);
                }
                x.tint(0, 2, here);
                x.tint(1, 2, behind);
                for (int q = 0; q < 4; q++) {
                    int light = x.light(2, 5, 10, q);
                    int sum = (4 - q) * here + q * behind;
                    DUE.holds("12 " + here + ", " + behind + ", quarter " + q, 4 * light - 2 <= sum && sum < 4 * light + 2);
                }
            }
        }
    }

    private static void quartersJoinTwoRows() {
        PageLines x = new PageLines();
        x.ground(0);
        x.patch(10, 10, 0, 11, 0);
        x.tint(0, 0, 1);
        int[] into = {0, 0, 1, 1};
        int[] outOf = {1, 1, 1, 0};
        for (int q = 0; q < 4; q++) {
            DUE.is("12 into a row of 1, quarter " + q, x.light(0, 0, 9, q), into[q]);
            DUE.is("12 out of a row of 1, quarter " + q, x.light(0, 0, 10, q), outOf[q]);
        }
        x.blank();
        x.patch(10, 11, 3, 3, 8);
        x.tint(0, 0, 200);
        DUE.is("12 each row with its own shift", x.light(0, 3, 10, 1), 150);
        DUE.is("12 each row with its own shift, the next column", x.light(0, 4, 10, 1), 50);
    }

    private static void speckIs0AtLeast() {
        PageLines x = new PageLines();
        x.ground(100);
        int[][] rows = {{0, 100}, {1, 99}, {99, 1}, {100, 0}, {101, 0}, {255, 0}};
        for (int[] r : rows) {
            x.speck(5, r[0]);
            DUE.is("12 100 less " + r[0], x.light(1, 5, 0, 0), r[1]);
            DUE.is("23 100 less " + r[0], x.whole(0, 1, 5), r[1]);
        }
        x.ground(0);
        x.speck(5, 0);
        DUE.is("12 0 less 0", x.light(1, 5, 0, 0), 0);
        x.speck(5, 1);
        DUE.is("12 0 less 1", x.light(1, 5, 0, 0), 0);
        // a half is rounded up ahead of the speck
        x.patch(1, 1, 0, 11, 0);
        x.tint(0, 1, 1);
        DUE.is("12 a half less 1", x.light(1, 5, 0, 2), 0);
        x.tint(0, 1, 3);
        DUE.is("12 one and a half less 1", x.light(1, 5, 0, 2), 1);
    }

    private static void specksOfTheEnds() {
        PageLines x = new PageLines();
        DUE.is("11 column 0", x.speck(0, 255), 0);
        DUE.is("11 column 11", x.speck(11, 254), 0);
        DUE.is("11 column -1", x.speck(-1, 1), UNKNOWN);
        DUE.is("11 column 12", x.speck(12, 1), UNKNOWN);
        DUE.is("11 256", x.speck(0, 256), OUTSIDE);
        DUE.is("11 -1", x.speck(0, -1), OUTSIDE);
        int[] due = {0, 255, 255, 255, 255, 255, 255, 255, 255, 255, 255, 1};
        for (int k = 0; k < 12; k++) DUE.is("12 speck of column " + k, x.light(0, k, 0, 0), due[k]);
        DUE.is("11 was 255", x.speck(0, 0), 255);
        DUE.is("11 was 254", x.speck(11, 0), 254);
    }

    private static void stripsHaveNoSpecks() {
        PageLines x = new PageLines();
        for (int k = 0; k < 12; k++) x.speck(k, 255);
        x.ground(0);
        x.patch(0, 63, 0, 11, 0);
        DUE.is("3 bright, under specks", x.strip(1), 36);
        DUE.is("3 BRIGHT", x.ofCell(0, 0, 3), 255);
        DUE.is("3 dark, under specks", x.strip(0), 36);
        DUE.is("3 DARK", x.ofCell(2, 11, 2), 0);
    }

    /** The page can be changed ahead of a scan, behind its last line and behind a break, not in between. */
    private static void refusedInAScanOnly() {
        PageLines x = new PageLines();
        DUE.is("8 ahead of the first scan", x.patch(0, 9, 0, 1, 0), 0);
        x.begin(2);
        DUE.is("7 begun", x.ground(1), STATE);
        x.ticks(100);
        DUE.is("8 all read", x.patch(0, 9, 0, 1, 0), STATE);
        x.take();
        DUE.is("9 one line is left", x.tint(0, 0, 1), STATE);
        DUE.is("10 one line is left", x.blank(), STATE);
        DUE.is("11 one line is left", x.speck(0, 1), STATE);
        x.take();
        DUE.is("7 none is left", x.ground(1), 255);
        DUE.is("8 none is left", x.patch(0, 9, 0, 1, 0), 1);
        DUE.is("9 none is left", x.tint(0, 0, 1), 0);
        DUE.is("11 none is left", x.speck(0, 1), 0);
        x.begin(40);
        DUE.is("10 begun again", x.blank(), STATE);
        x.stop();
        DUE.is("10 broken off", x.blank(), 2);
    }
}
