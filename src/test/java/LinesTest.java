/** Promises 24 to 32: pixel, grey, dark, run, edge, skew, longest, streaks, many. */
public final class LinesTest {
    private static final int UNKNOWN = -1, OUTSIDE = -2, STATE = -3, NONE = -9;
    private static final long LOST = Long.MIN_VALUE;
    private static final Due DUE = new Due("LinesTest");

    public static void main(String[] args) {
        pixel();
        pixelsStay();
        pixelsAreWhatTheLineWouldBe();
        lineRefusals();
        grey();
        dark();
        darkByThreshold();
        run();
        runsOfAllAndNone();
        edge();
        skewUp();
        skewDown();
        skewLeastTerms();
        skewSkipsLinesWithoutEdge();
        skewRefusals();
        longestDown();
        longestUp();
        longestSameWay();
        longestOneBehindAnother();
        longestByBothNeighbours();
        longestRefusals();
        streaks();
        many();
        DUE.end();
    }

    /** A scan of n lines, all of them taken. */
    private static void scan(PageLines x, int n) {
        x.begin(n);
        for (int i = 0; i < 100 && x.head(6) == 1; i++) {
            if (x.take() == NONE) x.ticks(40);
        }
        DUE.is("all are taken", x.many(2), n);
    }

    private static int lay(PageLines x, int from, int to, int left, int right, int slant, int grey) {
        int p = x.patch(from, to, left, right, slant);
        for (int colour = 0; colour < 3; colour++) x.tint(p, colour, grey);
        return p;
    }

    private static void pixel() {
        PageLines x = new PageLines();
        x.patch(1, 1, 3, 3, 0);
        x.tint(0, 0, 11);
        x.tint(0, 1, 22);
        x.tint(0, 2, 33);
        DUE.is("24 no scan", x.pixel(0, 0, 0), UNKNOWN);
        x.begin(3);
        x.ticks(8);
        DUE.is("24 queued, not taken", x.pixel(0, 0, 0), UNKNOWN);
        x.take();
        DUE.is("24 taken", x.pixel(0, 0, 0), 255);
        DUE.is("24 the next is not", x.pixel(1, 0, 3), UNKNOWN);
        x.take();
        DUE.is("24 colour 0", x.pixel(1, 0, 3), 11);
        DUE.is("24 colour 1", x.pixel(1, 1, 3), 22);
        DUE.is("24 colour 2", x.pixel(1, 2, 3), 33);
        DUE.is("24 left", x.pixel(1, 2, 2), 255);
        DUE.is("24 right", x.pixel(1, 0, 4), 255);
    }

    private static void pixelsStay() {
        PageLines x = new PageLines();
        lay(x, 0, 9, 0, 11, 0, 50);
        scan(x, 8);
        x.blank();
        x.ground(99);
        x.speck(0, 9);
        x.cell(0, 0, 0, 0);
        x.strip(1);
        x.pipe(0, 0);
        x.lead(1, 15);
        for (int y = 0; y < 8; y++) {
            for (int colour = 0; colour < 3; colour++) DUE.is("24 stays", x.pixel(y, colour, 0), 50);
        }
        DUE.is("24 while a line would be another", x.whole(0, 1, 1), 156);
        x.begin(1);
        DUE.is("24 forgotten", x.pixel(0, 0, 0), UNKNOWN);
    }

    private static void pixelsAreWhatTheLineWouldBe() {
        PageLines x = new PageLines();
        lay(x, 0, 30, 1, 4, 5, 20);
        x.patch(3, 17, 5, 9, -7);
        x.tint(0, 1, 140);
        x.tint(1, 2, 77);
        x.speck(6, 31);
        x.cell(1, 4, 12, 40);
        x.cell(2, 7, 0, 1);
        x.cell(2, 8, 0, 1);
        x.strip(0);
        x.strip(1);
        x.lead(1, 7);
        x.lead(2, 14);
        x.pipe(1, 20);
        x.pipe(2, -9);
        scan(x, 40);
        DUE.holds("22 there were stops", x.head(4) > 3);
        for (int i = 0; i < 150; i++) {
            int y = i * 7 % 40;
            int colour = i % 3;
            int k = i * 5 % 12;
            DUE.is("24 no stop is seen " + i, x.pixel(y, colour, k), x.whole(y, colour, k));
        }
    }

    private static void lineRefusals() {
        PageLines x = new PageLines();
        scan(x, 2);
        int[] wrong = {-1, 2, 40, Integer.MIN_VALUE, Integer.MAX_VALUE};
        for (int y : wrong) {
            DUE.is("24 line", x.pixel(y, 0, 0), UNKNOWN);
            DUE.is("25 line", x.grey(y, 0), UNKNOWN);
            DUE.is("26 line", x.dark(y), UNKNOWN);
            DUE.is("27 line", x.run(y, 0, 0), UNKNOWN);
            DUE.is("27 line ahead of outside", x.run(y, 0, 2), UNKNOWN);
            DUE.is("28 line", x.edge(y), UNKNOWN);
        }
        DUE.is("24 colour", x.pixel(0, 3, 0), UNKNOWN);
        DUE.is("24 colour below", x.pixel(0, -1, 0), UNKNOWN);
        DUE.is("24 column", x.pixel(0, 0, 12), UNKNOWN);
        DUE.is("24 column below", x.pixel(0, 0, -1), UNKNOWN);
        DUE.is("25 column", x.grey(0, 12), UNKNOWN);
        DUE.is("25 column below", x.grey(1, -1), UNKNOWN);
        DUE.is("25 last", x.grey(1, 11), 255);
    }

    private static int greyOf(int c0, int c1, int c2) {
        PageLines x = new PageLines();
        x.patch(0, 0, 0, 11, 0);
        x.tint(0, 0, c0);
        x.tint(0, 1, c1);
        x.tint(0, 2, c2);
        scan(x, 1);
        return x.grey(0, 5);
    }

    private static void grey() {
        DUE.is("25 colour 0", greyOf(8, 0, 0), 2);
        DUE.is("25 colour 1", greyOf(0, 8, 0), 5);
        DUE.is("25 colour 2", greyOf(0, 0, 8), 1);
        DUE.is("25 a half goes up", greyOf(1, 0, 2), 1);
        DUE.is("25 less goes down", greyOf(1, 0, 1), 0);
        DUE.is("25 most", greyOf(255, 255, 255), 255);
        DUE.is("25 all", greyOf(10, 100, 200), 90);
        DUE.is("25 least", greyOf(0, 0, 0), 0);
    }

    private static void dark() {
        PageLines x = new PageLines();
        x.patch(0, 1, 0, 0, 0);
        x.patch(0, 0, 4, 6, 0);
        x.patch(0, 0, 11, 11, 0);
        scan(x, 3);
        DUE.is("26 some", x.dark(0), 0b1000_0111_0001);
        DUE.is("26 one", x.dark(1), 1);
        DUE.is("26 none", x.dark(2), 0);
    }

    private static void darkByThreshold() {
        PageLines x = new PageLines();
        lay(x, 0, 0, 0, 0, 0, 127);
        lay(x, 0, 0, 1, 1, 0, 128);
        scan(x, 1);
        DUE.is("26 less than 128", x.dark(0), 1);
        x.threshold(129);
        DUE.is("26 as it is when asked", x.dark(0), 3);
        DUE.is("27 as it is when asked", x.run(0, 0, 1), 2);
        x.threshold(0);
        DUE.is("26 nothing is less than 0", x.dark(0), 0);
        DUE.is("28 as it is when asked", x.edge(0), NONE);
        x.threshold(127);
        DUE.is("26 not less than 127", x.dark(0), 0);
        x.threshold(255);
        DUE.is("26 white is not less than 255", x.dark(0), 3);
        x.threshold(256);
        DUE.is("26 all are less than 256", x.dark(0), 4095);
    }

    private static void run() {
        PageLines x = new PageLines();
        x.patch(0, 0, 0, 0, 0);
        x.patch(0, 0, 4, 6, 0);
        x.patch(0, 0, 8, 8, 0);
        x.patch(0, 0, 9, 9, 0);
        x.patch(0, 0, 11, 11, 0);
        scan(x, 1);
        int[][] runs = {{0, 1}, {4, 3}, {8, 2}, {11, 1}};
        for (int i = 0; i < 4; i++) {
            DUE.is("27 first column of " + i, x.run(0, i, 0), runs[i][0]);
            DUE.is("27 columns of " + i, x.run(0, i, 1), runs[i][1]);
        }
        DUE.is("27 no such run", x.run(0, 4, 0), UNKNOWN);
        DUE.is("27 no such run, ahead of outside", x.run(0, 4, 2), UNKNOWN);
        DUE.is("27 below", x.run(0, -1, 0), UNKNOWN);
        DUE.is("27 far", x.run(0, Integer.MAX_VALUE, 1), UNKNOWN);
        DUE.is("27 what 2", x.run(0, 0, 2), OUTSIDE);
        DUE.is("27 what -1", x.run(0, 3, -1), OUTSIDE);
    }

    private static void runsOfAllAndNone() {
        PageLines x = new PageLines();
        x.patch(0, 0, 0, 11, 0);
        scan(x, 2);
        DUE.is("27 all, first", x.run(0, 0, 0), 0);
        DUE.is("27 all, columns", x.run(0, 0, 1), 12);
        DUE.is("27 all, no second", x.run(0, 1, 0), UNKNOWN);
        DUE.is("27 none", x.run(1, 0, 0), UNKNOWN);
    }

    private static void edge() {
        PageLines x = new PageLines();
        x.patch(0, 0, 0, 3, 0);
        x.patch(1, 1, 11, 11, 0);
        x.patch(2, 2, 9, 9, 0);
        x.patch(2, 2, 5, 6, 0);
        scan(x, 4);
        DUE.is("28 first column", x.edge(0), 0);
        DUE.is("28 last column", x.edge(1), 11);
        DUE.is("28 first of two runs", x.edge(2), 5);
        DUE.is("28 none", x.edge(3), NONE);
    }

    private static void skew(String when, PageLines x, long upper, long lower) {
        DUE.is("29 " + when + ", upper", x.skew(0), upper);
        DUE.is("29 " + when + ", lower", x.skew(1), lower);
    }

    private static void skewUp() {
        PageLines x = new PageLines();
        x.patch(0, 20, 2, 4, 8);
        scan(x, 5);
        skew("a column a line", x, 1, 1);
        scan(x, 2);
        skew("two lines, in least terms as they are", x, 1, 1);
        x.blank();
        x.patch(0, 20, 2, 4, 4);
        scan(x, 4);
        skew("a column in two lines", x, 2, 5);
    }

    private static void skewDown() {
        PageLines x = new PageLines();
        x.patch(0, 20, 11, 11, -16);
        scan(x, 4);
        skew("back two columns a line", x, -2, 1);
        x.blank();
        x.patch(0, 20, 10, 11, -4);
        scan(x, 4);
        // EDGES 10, 9, 9, 8: 4 times 51 less 6 times 36, by 20
        skew("back a column in two lines", x, -3, 5);
    }

    private static void skewLeastTerms() {
        PageLines x = new PageLines();
        x.patch(0, 20, 7, 7, 0);
        scan(x, 5);
        skew("upright", x, 0, 1);
        x.blank();
        x.patch(0, 0, 3, 3, 0);
        x.patch(39, 39, 10, 10, 0);
        scan(x, 40);
        skew("two far lines", x, 7, 39);
        x.threshold(256);
        skew("by the threshold as it is", x, 0, 1);
    }

    private static void skewSkipsLinesWithoutEdge() {
        PageLines x = new PageLines();
        x.patch(1, 1, 2, 2, 0);
        x.patch(3, 3, 4, 4, 0);
        x.patch(6, 6, 4, 4, 0);
        x.begin(8);
        x.ticks(60);
        DUE.is("29 none is taken", x.skew(0), LOST);
        x.take();
        x.take();
        x.take();
        DUE.is("29 one edge", x.skew(0), LOST);
        DUE.is("29 one edge, lower", x.skew(1), LOST);
        x.take();
        skew("two edges", x, 1, 1);
        x.take();
        skew("a line without edge", x, 1, 1);
        x.take();
        x.ticks(60);
        x.take();
        // LINES 1, 3, 6 with EDGES 2, 4, 4: 3 times 38 less 100, by 3 times 46 less 100
        skew("three edges", x, 7, 19);
        x.stop();
        skew("broken off", x, 7, 19);
        x.begin(1);
        DUE.is("29 forgotten", x.skew(0), LOST);
    }

    private static void skewRefusals() {
        PageLines x = new PageLines();
        x.patch(0, 20, 7, 7, 0);
        scan(x, 3);
        DUE.is("29 which 2", x.skew(2), LOST);
        DUE.is("29 which -1", x.skew(-1), LOST);
        DUE.is("29 LOST", LOST, PageLines.LOST);
        x.threshold(0);
        DUE.is("29 no edges", x.skew(1), LOST);
    }

    private static void longestDown() {
        PageLines x = new PageLines();
        x.speck(5, 24);
        x.speck(8, 23);
        x.begin(6);
        x.ticks(60);
        for (int i = 1; i <= 5; i++) {
            x.take();
            DUE.is("30 by 24, lines " + i, x.longest(5), i);
            DUE.is("30 by 23, lines " + i, x.longest(8), 0);
        }
        DUE.is("30 neighbour", x.longest(4), 0);
        x.stop();
        DUE.is("30 broken off", x.longest(5), 5);
        x.begin(1);
        DUE.is("30 forgotten", x.longest(5), 0);
    }

    private static void longestUp() {
        PageLines x = new PageLines();
        x.ground(100);
        lay(x, 0, 3, 1, 1, 0, 124);
        lay(x, 0, 2, 10, 10, 0, 124);
        lay(x, 0, 9, 5, 5, 0, 123);
        lay(x, 0, 9, 0, 0, 0, 100);
        scan(x, 9);
        DUE.is("30 up, column 1", x.longest(1), 4);
        DUE.is("30 up, column 10", x.longest(10), 3);
        DUE.is("30 up by 23", x.longest(5), 0);
        DUE.is("31 up", x.streaks(), 2);
    }

    private static void longestSameWay() {
        PageLines x = new PageLines();
        x.ground(100);
        lay(x, 0, 2, 6, 6, 0, 200);
        lay(x, 3, 5, 6, 6, 0, 10);
        scan(x, 6);
        DUE.is("30 three up, three down", x.longest(6), 3);
        DUE.is("31 no streak", x.streaks(), 0);
        lay(x, 1, 1, 6, 6, 0, 10);
        scan(x, 6);
        DUE.is("30 up, down, up, down", x.longest(6), 3);
        lay(x, 2, 2, 6, 6, 0, 10);
        scan(x, 6);
        DUE.is("30 up, then five down", x.longest(6), 5);
    }

    private static void longestOneBehindAnother() {
        PageLines x = new PageLines();
        x.ground(100);
        lay(x, 0, 6, 6, 6, 0, 10);
        lay(x, 3, 3, 6, 6, 0, 100);
        scan(x, 9);
        DUE.is("30 three, a gap, three", x.longest(6), 3);
        x.tint(1, 1, 10);
        scan(x, 9);
        DUE.is("30 no gap", x.longest(6), 7);
    }

    private static void longestByBothNeighbours() {
        PageLines x = new PageLines();
        x.ground(100);
        lay(x, 0, 9, 0, 5, 0, 50);
        scan(x, 5);
        for (int k = 0; k < 12; k++) DUE.is("30 a step is no streak " + k, x.longest(k), 0);
        DUE.is("31 a step is no streak", x.streaks(), 0);
        x.blank();
        lay(x, 0, 9, 5, 6, 0, 50);
        scan(x, 5);
        DUE.is("30 two side by side, the left", x.longest(5), 0);
        DUE.is("30 two side by side, the right", x.longest(6), 0);
        x.blank();
        lay(x, 0, 9, 11, 11, 0, 10);
        scan(x, 5);
        DUE.is("30 column 11 alone", x.longest(11), 0);
        lay(x, 0, 9, 0, 0, 0, 10);
        scan(x, 5);
        DUE.is("30 column 0", x.longest(0), 0);
        DUE.is("30 column 11", x.longest(11), 0);
        DUE.is("31 the ends", x.streaks(), 0);
    }

    private static void longestRefusals() {
        PageLines x = new PageLines();
        DUE.is("30 above", x.longest(12), UNKNOWN);
        DUE.is("30 below", x.longest(-1), UNKNOWN);
        DUE.is("30 far", x.longest(Integer.MAX_VALUE), UNKNOWN);
        for (int k = 0; k < 12; k++) DUE.is("30 no lines", x.longest(k), 0);
    }

    private static void streaks() {
        PageLines x = new PageLines();
        x.speck(1, 40);
        x.speck(5, 60);
        x.speck(10, 255);
        x.begin(5);
        x.ticks(60);
        int[] due = {0, 0, 0, 0b100_0010_0010, 0b100_0010_0010};
        DUE.is("31 none is taken", x.streaks(), 0);
        for (int set : due) {
            x.take();
            DUE.is("31 after " + x.many(2), x.streaks(), set);
        }
        DUE.is("31 the scan is over", x.take(), STATE);
        DUE.is("31 then, too", x.streaks(), 0b100_0010_0010);
    }

    private static void many() {
        PageLines x = new PageLines();
        x.patch(0, 9, 0, 1, 0);
        x.patch(0, 9, 4, 5, 0);
        x.patch(2, 2, 2, 3, 0);
        x.pipe(1, 16);
        x.pipe(2, 0);
        x.cell(0, 7, 0, 0);
        x.strip(1);
        x.begin(5);
        x.ticks(60);
        int[] begun = {3, 2, 0, 35, 5, 0};
        for (int i = 0; i < 6; i++) DUE.is("32 begun " + i, x.many(i), begun[i]);
        int[] runs = {2, 4, 5, 7, 9};
        for (int i = 0; i < 5; i++) {
            x.take();
            DUE.is("32 taken", x.many(2), i + 1);
            DUE.is("32 runs", x.many(5), runs[i]);
        }
        DUE.is("32 lines stay", x.many(4), 5);
        x.threshold(256);
        DUE.is("32 runs by the threshold as it is", x.many(5), 5);
        x.threshold(0);
        DUE.is("32 no runs", x.many(5), 0);
        DUE.is("32 above", x.many(6), OUTSIDE);
        DUE.is("32 below", x.many(-1), OUTSIDE);
        DUE.is("32 far", x.many(Integer.MIN_VALUE), OUTSIDE);
    }
}
