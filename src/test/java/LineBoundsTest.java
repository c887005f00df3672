/**
 * The sentences of 'Terms', section 4, that name a boundary case, one method each: no line, one line
 * and all forty, a grey at the threshold, the first and the last run, edges for skew, by how much and
 * how long a column sticks out.
 */
public final class LineBoundsTest {
    private static final int UNKNOWN = -1, OUTSIDE = -2, NONE = -9;
    private static final long LOST = Long.MIN_VALUE;
    private static final Due DUE = new Due("LineBoundsTest");

    public static void main(String[] args) {
        noLineAheadOfTheFirstScan();
        noLineThatIsOnlyQueued();
        beginForgets();
        greyIsRounded();
        greyHalfGoesUp();
        darkIsLessThanTheThreshold();
        darkColumnsAsBits();
        sixRuns();
        oneRunAndNone();
        runsByTheThresholdAsItIs();
        edgeInTheFirstAndLastColumn();
        skewOfNoLine();
        skewOfOneLine();
        skewOfTwoLines();
        skewOfTwoLinesAmongOthers();
        skewInLeastTerms();
        skewOfFortyLines();
        skewByTheThresholdAsItIs();
        sticksOutBy24();
        columnsThatStickOut();
        longestOfNoneOneAndForty();
        longestTheSameWay();
        longestOfTheLongerPart();
        streakOf4();
        streaksAsBits();
        manyAtItsEnds();
        DUE.end();
    }

    /** A patch whose tints are all the same: its grey is that number. */
    private static void lay(PageLines x, int from, int to, int left, int right, int grey) {
        int p = x.patch(from, to, left, right, 0);
        for (int colour = 0; colour < 3; colour++) x.tint(p, colour, grey);
    }

    private static void scan(PageLines x, int n) {
        x.begin(n);
        for (int i = 0; i < n; i++) {
            if (x.head(3) == 0) x.ticks(60);
            x.take();
        }
        DUE.is("20 all are taken", x.many(2), n);
    }

    private static void knowsNoLine(String when, PageLines x, int y) {
        DUE.is("24 " + when, x.pixel(y, 0, 0), UNKNOWN);
        DUE.is("25 " + when, x.grey(y, 0), UNKNOWN);
        DUE.is("26 " + when, x.dark(y), UNKNOWN);
        DUE.is("27 " + when, x.run(y, 0, 0), UNKNOWN);
        DUE.is("27 also with a wrong 'what', " + when, x.run(y, 0, 2), UNKNOWN);
        DUE.is("28 " + when, x.edge(y), UNKNOWN);
    }

    private static void hasNoLines(String when, PageLines x) {
        knowsNoLine(when, x, 0);
        knowsNoLine(when, x, -1);
        DUE.is("29 " + when, x.skew(0), LOST);
        DUE.is("29 lower, " + when, x.skew(1), LOST);
        for (int k = 0; k < 12; k++) DUE.is("30 " + when, x.longest(k), 0);
        DUE.is("31 " + when, x.streaks(), 0);
        DUE.is("32 lines, " + when, x.many(2), 0);
        DUE.is("32 runs, " + when, x.many(5), 0);
    }

    private static void noLineAheadOfTheFirstScan() {
        PageLines x = new PageLines();
        x.ground(0);
        x.speck(5, 100);
        hasNoLines("no scan", x);
        DUE.is("32 lines of no scan", x.many(4), 0);
    }

    private static void noLineThatIsOnlyQueued() {
        PageLines x = new PageLines();
        x.ground(0);
        x.begin(6);
        hasNoLines("begun", x);
        x.ticks(60);
        hasNoLines("queued", x);
        x.take();
        knowsNoLine("the next one", x, 1);
        DUE.is("26 the one that was taken", x.dark(0), 4095);
        x.stop();
        knowsNoLine("broken off, the next one", x, 1);
        DUE.is("26 broken off, the one that was taken", x.dark(0), 4095);
    }

    private static void beginForgets() {
        PageLines x = new PageLines();
        x.ground(100);
        x.speck(5, 100);
        scan(x, 7);
        DUE.is("31 a streak", x.streaks(), 32);
        DUE.is("18 refused", x.begin(41), OUTSIDE);
        DUE.is("31 a refused begin forgets nothing", x.streaks(), 32);
        x.begin(40);
        hasNoLines("begun again", x);
        x.stop();
        hasNoLines("begun again and broken off", x);
    }

    private static void greyIsRounded() {
        int[] numbers = {0, 1, 2, 3, 127, 128, 254, 255};
        int drawn = 0;
        for (int object = 0; object < 40; object++) {
            PageLines x = new PageLines();
            int[][] tints = new int[12][3];
            for (int k = 0; k < 12; k++) {
                x.patch(0, 0, k, k, 0);
                for (int colour = 0; colour < 3; colour++) {
                    tints[k][colour] = numbers[(drawn >> 3 * colour) % 8];
                    x.tint(k, colour, tints[k][colour]);
                }
                drawn += 1 + 8 * (object % 2);
            }
            scan(x, 1);
            for (int k = 0; k < 12; k++) {
                int sum = 2 * tints[k][0] + 5 * tints[k][1] + tints[k][2];
                int grey = x.grey(0, k);
                DUE.holds("25 grey of " + sum + " by 8: " + grey, 8 * grey - 4 <= sum && sum < 8 * grey + 4);
            }
        }
    }

    private static void greyHalfGoesUp() {
        // sums of 3, 4, 11, 12, 2036 (the last half below the most), 2035, 2040
        int[][] rows = {{1, 0, 1, 0}, {2, 0, 0, 1}, {0, 2, 1, 1}, {1, 2, 0, 2},
            {255, 255, 251, 255}, {255, 255, 250, 254}, {255, 255, 255, 255}, {0, 0, 0, 0}};
        PageLines x = new PageLines();
        for (int k = 0; k < rows.length; k++) {
            x.patch(0, 0, k, k, 0);
            for (int colour = 0; colour < 3; colour++) x.tint(k, colour, rows[k][colour]);
        }
        scan(x, 1);
        for (int k = 0; k < rows.length; k++) DUE.is("25 grey of row " + k, x.grey(0, k), rows[k][3]);
    }

    private static void darkIsLessThanTheThreshold() {
        int[] greys = {0, 1, 127, 128, 254, 255};
        PageLines x = new PageLines();
        for (int k = 0; k < 6; k++) lay(x, 0, 0, k, k, greys[k]);
        scan(x, 1);
        DUE.is("26 128 at first", x.dark(0), 0b000111);
        for (int k = 0; k < 6; k++) {
            x.threshold(greys[k]);
            DUE.is("26 not less than itself: " + greys[k], x.dark(0) >> k & 1, 0);
            x.threshold(greys[k] + 1);
            DUE.is("26 less than 1 more: " + greys[k], x.dark(0) >> k & 1, 1);
        }
        x.threshold(0);
        DUE.is("26 none", x.dark(0), 0);
        x.threshold(1);
        DUE.is("26 black alone", x.dark(0), 1);
        x.threshold(255);
        DUE.is("26 all but white", x.dark(0), 0b011111);
        x.threshold(256);
        DUE.is("26 all", x.dark(0), 4095);
    }

    private static void darkColumnsAsBits() {
        PageLines x = new PageLines();
        for (int k = 0; k < 12; k++) lay(x, k, k, k, k, 0);
        scan(x, 13);
        for (int k = 0; k < 12; k++) DUE.is("26 bit " + k, x.dark(k), 1 << k);
        DUE.is("26 no bit", x.dark(12), 0);
    }

    private static void sixRuns() {
        PageLines x = new PageLines();
        for (int k = 0; k < 12; k++) lay(x, k % 2, k % 2, k, k, 0);
        scan(x, 2);
        for (int y = 0; y < 2; y++) {
            for (int i = 0; i < 6; i++) {
                DUE.is("27 first column of run " + i, x.run(y, i, 0), 2 * i + y);
                DUE.is("27 columns of run " + i, x.run(y, i, 1), 1);
            }
            DUE.is("27 run 6", x.run(y, 6, 0), UNKNOWN);
            DUE.is("27 run -1", x.run(y, -1, 0), UNKNOWN);
            DUE.is("27 run 6 and what 2", x.run(y, 6, 2), UNKNOWN);
            DUE.is("27 what 2", x.run(y, 5, 2), OUTSIDE);
            DUE.is("27 what -1", x.run(y, 0, -1), OUTSIDE);
        }
        DUE.is("32 as many runs as two lines can have", x.many(5), 12);
    }

    private static void run(String what, PageLines x, int y, int first, int columns) {
        DUE.is("27 " + what + ", first", x.run(y, 0, 0), first);
        DUE.is("27 " + what + ", columns", x.run(y, 0, 1), columns);
        DUE.is("27 " + what + ", no second", x.run(y, 1, 0), UNKNOWN);
    }

    private static void oneRunAndNone() {
        PageLines x = new PageLines();
        lay(x, 0, 0, 0, 11, 0);
        lay(x, 1, 1, 0, 0, 0);
        lay(x, 2, 2, 11, 11, 0);
        lay(x, 3, 3, 10, 11, 0);
        lay(x, 5, 5, 2, 4, 0);
        lay(x, 5, 5, 5, 8, 9);
        scan(x, 6);
        run("all columns", x, 0, 0, 12);
        run("the first column", x, 1, 0, 1);
        run("the last column", x, 2, 11, 1);
        run("the last two", x, 3, 10, 2);
        DUE.is("27 none", x.run(4, 0, 0), UNKNOWN);
        DUE.is("27 none, and what 2", x.run(4, 0, 2), UNKNOWN);
        run("two patches side by side are one run", x, 5, 2, 7);
        DUE.is("32 runs", x.many(5), 5);
    }

    private static void runsByTheThresholdAsItIs() {
        PageLines x = new PageLines();
        x.ground(200);
        lay(x, 0, 0, 2, 4, 50);
        lay(x, 0, 0, 3, 3, 51);
        scan(x, 1);
        int[][] rows = {{50, 0, UNKNOWN}, {51, 2, 1}, {52, 1, 3}, {200, 1, 3}, {201, 1, 12}};
        for (int[] r : rows) {
            x.threshold(r[0]);
            DUE.is("32 runs by " + r[0], x.many(5), r[1]);
            DUE.is("27 columns by " + r[0], x.run(0, 0, 1), r[2]);
        }
    }

    private static void edgeInTheFirstAndLastColumn() {
        PageLines x = new PageLines();
        lay(x, 0, 0, 0, 0, 127);
        lay(x, 1, 1, 11, 11, 127);
        lay(x, 2, 2, 0, 10, 128);
        scan(x, 3);
        DUE.is("28 column 0", x.edge(0), 0);
        DUE.is("28 column 11", x.edge(1), 11);
        DUE.is("28 none is less than 128", x.edge(2), NONE);
        x.threshold(129);
        DUE.is("28 less than 129", x.edge(2), 0);
        x.threshold(0);
        DUE.is("28 none is less than 0", x.edge(0), NONE);
    }

    private static void skew(String what, PageLines x, long upper, long lower) {
        DUE.is("29 " + what + ", upper", x.skew(0), upper);
        DUE.is("29 " + what + ", lower", x.skew(1), lower);
    }

    private static void noSkew(String what, PageLines x) {
        for (int which = -1; which <= 2; which++) DUE.is("29 " + what + ", which " + which, x.skew(which), LOST);
    }

    private static void skewOfNoLine() {
        PageLines x = new PageLines();
        noSkew("no scan", x);
        x.begin(3);
        noSkew("none is taken", x);
        x.stop();
        scan(x, 3);
        noSkew("no line has an edge", x);
    }

    private static void skewOfOneLine() {
        PageLines x = new PageLines();
        lay(x, 0, 0, 11, 11, 0);
        scan(x, 1);
        noSkew("LINE 0 alone", x);
        scan(x, 40);
        noSkew("LINE 0 of forty", x);
        x.blank();
        lay(x, 39, 39, 0, 0, 0);
        scan(x, 40);
        noSkew("LINE 39 of forty", x);
    }

    /** Two lines, with an edge each. */
    private static PageLines twoEdges(int y, int edge, int otherY, int otherEdge) {
        PageLines x = new PageLines();
        lay(x, y, y, edge, edge, 0);
        lay(x, otherY, otherY, otherEdge, otherEdge, 0);
        scan(x, otherY + 1);
        DUE.is("29 which 2", x.skew(2), LOST);
        DUE.is("29 which -1", x.skew(-1), LOST);
        return x;
    }

    private static void skewOfTwoLines() {
        skew("steepest", twoEdges(0, 0, 1, 11), 11, 1);
        skew("steepest back", twoEdges(0, 11, 1, 0), -11, 1);
        skew("upright in the first column", twoEdges(0, 0, 1, 0), 0, 1);
        skew("upright in the last column", twoEdges(0, 11, 1, 11), 0, 1);
        skew("least steep", twoEdges(0, 5, 39, 6), 1, 39);
        skew("least steep back", twoEdges(0, 6, 39, 5), -1, 39);
        skew("the last two lines", twoEdges(38, 3, 39, 5), 2, 1);
    }

    private static void skewOfTwoLinesAmongOthers() {
        PageLines x = new PageLines();
        lay(x, 2, 2, 4, 4, 0);
        lay(x, 5, 5, 6, 11, 0);
        x.begin(6);
        x.ticks(60);
        for (int i = 0; i < 5; i++) {
            x.take();
            noSkew("behind LINE " + i, x);
        }
        x.take();
        skew("behind LINE 5", x, 2, 3);
    }

    private static void skewInLeastTerms() {
        skew("4 by 6", twoEdges(0, 0, 6, 4), 2, 3);
        skew("-4 by 6", twoEdges(0, 4, 6, 0), -2, 3);
        skew("8 by 4", twoEdges(1, 1, 5, 9), 2, 1);
        skew("-9 by 9", twoEdges(1, 10, 10, 1), -1, 1);
        skew("7 by 3", twoEdges(4, 2, 7, 9), 7, 3);
        skew("0 by 39", twoEdges(0, 7, 39, 7), 0, 1);
    }

    private static void skewOfFortyLines() {
        PageLines x = new PageLines();
        lay(x, 0, 19, 0, 0, 0);
        lay(x, 20, 39, 11, 11, 0);
        scan(x, 40);
        // 40 times 6490 less 780 times 220, by 40 times 20540 less 780 times 780: 88000 by 213200
        skew("a step in the middle", x, 220, 533);
        x.blank();
        x.patch(0, 39, 11, 11, -1);
        scan(x, 40);
        DUE.is("28 the last edge", x.edge(39), 6);
        // EDGES 11, then eight each of 10, 9, 8, 7, then seven of 6; 40 times 5680 less 780 times 325: -26300
        skew("an eighth back each line", x, -263, 2132);
    }

    private static void skewByTheThresholdAsItIs() {
        PageLines x = new PageLines();
        lay(x, 0, 0, 3, 3, 10);
        lay(x, 1, 1, 5, 5, 20);
        lay(x, 2, 2, 5, 5, 30);
        scan(x, 3);
        skew("three edges", x, 1, 1);
        x.threshold(30);
        skew("two edges", x, 2, 1);
        x.threshold(20);
        noSkew("one edge", x);
        x.threshold(10);
        noSkew("no edge", x);
        x.threshold(256);
        skew("all are dark", x, 0, 1);
    }

    private static int longestWith(int k, int left, int here, int right) {
        PageLines x = new PageLines();
        x.ground(here);
        lay(x, 0, 63, k - 1, k - 1, left);
        lay(x, 0, 63, k + 1, k + 1, right);
        scan(x, 2);
        return x.longest(k);
    }

    private static void sticksOutBy24() {
        for (int k = 1; k <= 10; k++) {
            DUE.is("30 up by 24, 24", longestWith(k, 76, 100, 76), 2);
            DUE.is("30 up by 23, 24", longestWith(k, 77, 100, 76), 0);
            DUE.is("30 up by 24, 23", longestWith(k, 76, 100, 77), 0);
            DUE.is("30 down by 24, 24", longestWith(k, 124, 100, 124), 2);
            DUE.is("30 down by 23, 24", longestWith(k, 123, 100, 124), 0);
            DUE.is("30 down by 24, 23", longestWith(k, 124, 100, 123), 0);
            DUE.is("30 up and down by 24", longestWith(k, 76, 100, 124), 0);
            DUE.is("30 down and up by 24", longestWith(k, 124, 100, 76), 0);
        }
        DUE.is("30 up by all", longestWith(5, 0, 255, 0), 2);
        DUE.is("30 down by all", longestWith(5, 255, 0, 255), 2);
        DUE.is("30 not at all", longestWith(5, 9, 9, 9), 0);
    }

    /** Columns 0 and 11 have one neighbour each and never stick out; 1 and 10 do. */
    private static void columnsThatStickOut() {
        for (int k = 0; k < 12; k++) {
            PageLines x = new PageLines();
            x.ground(100);
            x.speck(k, 100);
            scan(x, 4);
            boolean inside = k >= 1 && k <= 10;
            DUE.is("30 column " + k, x.longest(k), inside ? 4 : 0);
            DUE.is("31 column " + k, x.streaks(), inside ? 1 << k : 0);
            DUE.is("30 column -1", x.longest(-1), UNKNOWN);
            DUE.is("30 column 12", x.longest(12), UNKNOWN);
        }
    }

    private static void longestOfNoneOneAndForty() {
        PageLines x = new PageLines();
        x.speck(1, 24);
        x.speck(10, 24);
        x.begin(40);
        DUE.is("30 none", x.longest(1), 0);
        x.ticks(6);
        x.take();
        DUE.is("30 one", x.longest(1), 1);
        for (int i = 1; i < 40; i++) {
            if (x.head(3) == 0) x.ticks(60);
            x.take();
        }
        DUE.is("30 forty", x.longest(1), 40);
        DUE.is("30 forty, column 10", x.longest(10), 40);
    }

    private static void longestTheSameWay() {
        PageLines x = new PageLines();
        x.ground(100);
        lay(x, 0, 2, 5, 5, 76);
        lay(x, 3, 5, 5, 5, 124);
        scan(x, 6);
        DUE.is("30 three down, three up", x.longest(5), 3);
        DUE.is("31 are no streak", x.streaks(), 0);
        x.blank();
        lay(x, 0, 3, 5, 5, 76);
        lay(x, 4, 5, 5, 5, 124);
        scan(x, 6);
        DUE.is("30 four down, two up", x.longest(5), 4);
        DUE.is("31 are one", x.streaks(), 32);
        x.blank();
        for (int y = 0; y < 6; y++) lay(x, y, y, 5, 5, y % 2 == 0 ? 76 : 124);
        scan(x, 6);
        DUE.is("30 down and up in turn", x.longest(5), 1);
    }

    private static void longestOfTheLongerPart() {
        PageLines x = new PageLines();
        x.ground(100);
        lay(x, 0, 2, 5, 5, 76);
        lay(x, 4, 8, 5, 5, 76);
        lay(x, 0, 4, 8, 8, 76);
        lay(x, 6, 8, 8, 8, 76);
        scan(x, 10);
        DUE.is("30 three, then five", x.longest(5), 5);
        DUE.is("30 five, then three", x.longest(8), 5);
    }

    private static void streakOf4() {
        for (int n = 3; n <= 4; n++) {
            PageLines x = new PageLines();
            x.ground(100);
            lay(x, 0, n - 1, 5, 5, 76);
            lay(x, 40 - n, 39, 8, 8, 124);
            scan(x, 40);
            DUE.is("30 the first lines", x.longest(5), n);
            DUE.is("30 the last lines", x.longest(8), n);
            DUE.is("31 lines " + n, x.streaks(), n == 4 ? 1 << 5 | 1 << 8 : 0);
        }
    }

    private static void streaksAsBits() {
        PageLines x = new PageLines();
        for (int k = 0; k < 12; k += 2) x.speck(k, 200);
        scan(x, 4);
        DUE.is("31 down and up side by side, but for the ends", x.streaks(), 0b0111_1111_1110);
    }

    private static void manyAtItsEnds() {
        PageLines x = new PageLines();
        DUE.is("32 -1", x.many(-1), OUTSIDE);
        DUE.is("32 6", x.many(6), OUTSIDE);
        x.ground(0);
        scan(x, 40);
        DUE.is("32 forty lines", x.many(2), 40);
        DUE.is("32 of forty", x.many(4), 40);
        DUE.is("32 a run each", x.many(5), 40);
        x.begin(1);
        DUE.is("32 none of the next scan", x.many(2), 0);
        DUE.is("32 of one", x.many(4), 1);
        DUE.is("32 no runs", x.many(5), 0);
    }
}
