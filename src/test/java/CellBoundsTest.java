/**
 * The sentences of 'Terms', section 1, that name a boundary case, one method each: what is cut down,
 * rounded, held at 0 and 255, and when a cell is of no use. Results are not worked out a second
 * time but held between the numbers that the sentence leaves.
 */
public final class CellBoundsTest {
    private static final int STATE = -3;
    private static final Due DUE = new Due("CellBoundsTest");

    public static void main(String[] args) {
        offsetAndGainAtTheirEnds();
        readingIsCutDownAnd255AtMost();
        onlyTheProductIsCutDown();
        stripsAtFirst();
        darkIsTheReadingOf0();
        brightIs255AtMost();
        stripsStayAsRead();
        liveBy16();
        liveBy16WhileOthersAreNot();
        evenIsRounded();
        evenIs0BelowDark();
        evenIs255AtMost();
        bridgedFromBothSides();
        bridgedAtTheEnds();
        bridgedByNone();
        bridgedHalfGoesUp();
        bridgedWithinOneColour();
        bridgedAheadOfTheJoin();
        DUE.end();
    }

    /** A cell with other numbers than the strips saw: DARK of the first offset, BRIGHT of the second pair. */
    private static PageLines withSpan(int darkOffset, int brightOffset, int brightGain) {
        PageLines x = new PageLines();
        x.cell(0, 0, darkOffset, 64);
        x.strip(0);
        x.cell(0, 0, brightOffset, brightGain);
        x.strip(1);
        return x;
    }

    private static void offsetAndGainAtTheirEnds() {
        PageLines x = new PageLines();
        int[][] ends = {{0, 0}, {0, 127}, {63, 0}, {63, 127}};
        int[][] corners = {{0, 0}, {0, 11}, {2, 0}, {2, 11}};
        for (int i = 0; i < 4; i++) {
            int colour = corners[i][0], k = corners[i][1];
            DUE.is("2 taken at the ends " + i, x.cell(colour, k, ends[i][0], ends[i][1]), 1);
        }
        for (int i = 0; i < 4; i++) {
            int colour = corners[i][0], k = corners[i][1];
            DUE.is("2 OFFSET at the ends " + i, x.ofCell(colour, k, 0), ends[i][0]);
            DUE.is("2 GAIN at the ends " + i, x.ofCell(colour, k, 1), ends[i][1]);
        }
        DUE.is("2 the cell behind the last of a colour", x.ofCell(1, 0, 1), 64);
        DUE.is("2 the cell ahead of the first of a colour", x.ofCell(1, 11, 1), 64);
    }

    private static void readingIsCutDownAnd255AtMost() {
        for (int offset : new int[] {0, 1, 32, 62, 63}) {
            for (int gain = 0; gain <= 127; gain++) {
                PageLines x = new PageLines();
                x.cell(1, 6, offset, gain);
                for (int v = 0; v <= 255; v++) {
                    int more = x.reading(1, 6, v) - offset;
                    boolean cutDown = 64 * more <= v * gain && v * gain < 64 * (more + 1);
                    boolean most = more + offset == 255 && v * gain >= 64 * more;
                    DUE.holds("5 reading " + offset + " " + gain + " " + v, cutDown || most);
                    DUE.holds("5 reading is 255 at most", more + offset <= 255);
                }
            }
        }
    }

    private static void onlyTheProductIsCutDown() {
        PageLines x = new PageLines();
        x.cell(0, 0, 63, 1);
        DUE.is("5 63 by 64 is cut down to 0", x.reading(0, 0, 63), 63);
        DUE.is("5 64 by 64 is 1", x.reading(0, 0, 64), 64);
        DUE.is("5 255 by 64 is cut down to 3", x.reading(0, 0, 255), 66);
        x.cell(0, 1, 3, 63);
        DUE.is("5 254 is below the most", x.reading(0, 1, 255), 254);
        x.cell(0, 1, 4, 63);
        DUE.is("5 255 is the most", x.reading(0, 1, 255), 255);
        x.cell(0, 1, 5, 63);
        DUE.is("5 256 is held at 255", x.reading(0, 1, 255), 255);
        DUE.is("5 254 is no more held", x.reading(0, 1, 253), 254);
    }

    private static void stripsAtFirst() {
        PageLines x = new PageLines();
        x.cell(0, 0, 63, 0);
        DUE.is("4 DARK at first", x.ofCell(0, 0, 2), 0);
        DUE.is("4 BRIGHT at first", x.ofCell(0, 0, 3), 255);
        DUE.is("4 LIVE at first, whatever the cell became", x.ofCell(0, 0, 4), 1);
        DUE.is("6 EVEN is the reading itself", x.even(0, 0, 63), 63);
        DUE.is("3 not LIVE only then", x.strip(1), 36);
        DUE.is("3 BRIGHT 63 is 63 more than 0", x.ofCell(0, 0, 4), 1);
        DUE.is("3 not LIVE behind both", x.strip(0), 35);
    }

    private static void darkIsTheReadingOf0() {
        PageLines x = new PageLines();
        x.cell(0, 0, 0, 127);
        x.cell(0, 1, 63, 127);
        x.strip(0);
        DUE.is("3 DARK of OFFSET 0", x.ofCell(0, 0, 2), 0);
        DUE.is("3 DARK of OFFSET 63", x.ofCell(0, 1, 2), 63);
        DUE.is("3 dark leaves BRIGHT", x.ofCell(0, 1, 3), 255);
    }

    private static void brightIs255AtMost() {
        int[][] rows = {{0, 0, 0}, {63, 0, 63}, {0, 63, 251}, {3, 63, 254}, {4, 63, 255}, {5, 63, 255}, {0, 64, 255},
            {1, 64, 255}, {0, 127, 255}, {63, 127, 255}, {63, 48, 254}, {63, 49, 255}};
        PageLines x = new PageLines();
        for (int k = 0; k < rows.length; k++) x.cell(2, k, rows[k][0], rows[k][1]);
        x.strip(1);
        for (int k = 0; k < rows.length; k++) DUE.is("3 BRIGHT of row " + k, x.ofCell(2, k, 3), rows[k][2]);
        DUE.is("3 bright leaves DARK", x.ofCell(2, 11, 2), 0);
    }

    private static void stripsStayAsRead() {
        PageLines x = withSpan(5, 10, 32);
        x.cell(0, 0, 63, 127);
        DUE.is("3 DARK stays", x.ofCell(0, 0, 2), 5);
        DUE.is("3 BRIGHT stays", x.ofCell(0, 0, 3), 137);
        DUE.is("3 a strip reads the one end alone", x.strip(0), 36);
        DUE.is("3 the other end stays", x.ofCell(0, 0, 3), 137);
        x.begin(1);
        x.ticks(40);
        x.take();
        DUE.is("3 DARK stays through a scan", x.ofCell(0, 0, 2), 63);
        DUE.is("3 BRIGHT stays through a scan", x.ofCell(0, 0, 3), 137);
    }

    /** DARK, then OFFSET and GAIN of BRIGHT, and whether it is LIVE. */
    private static void liveBy16() {
        int[][] rows = {
            {0, 15, 0, 0}, {0, 16, 0, 1}, {0, 0, 4, 0}, {0, 1, 4, 1}, {0, 0, 5, 1},
            {62, 63, 4, 1}, {63, 63, 4, 0}, {63, 63, 5, 1}, {47, 63, 0, 1}, {48, 63, 0, 0},
            {16, 16, 0, 0}, {63, 0, 0, 0}, {63, 63, 127, 1}, {0, 0, 127, 1}, {1, 0, 0, 0}};
        for (int[] r : rows) {
            PageLines x = withSpan(r[0], r[1], r[2]);
            int span = x.ofCell(0, 0, 3) - x.ofCell(0, 0, 2);
            DUE.is("4 LIVE with a span of " + span, x.ofCell(0, 0, 4), r[3]);
            DUE.is("4 as many says, span " + span, x.many(3), 35 + r[3]);
            DUE.is("6 STATE with a span of " + span, x.even(0, 0, x.ofCell(0, 0, 2)), r[3] == 1 ? 0 : STATE);
        }
    }

    private static void liveBy16WhileOthersAreNot() {
        PageLines x = new PageLines();
        for (int colour = 0; colour < 3; colour++) {
            for (int k = 0; k < 12; k++) x.cell(colour, k, 15, 0);
        }
        DUE.is("3 none is LIVE", x.strip(1), 0);
        DUE.is("32 none is LIVE", x.many(3), 0);
        x.cell(2, 11, 16, 0);
        DUE.is("3 one is LIVE", x.strip(1), 1);
        DUE.is("6 the one", x.even(2, 11, 16), 255);
        DUE.is("6 its neighbour", x.even(2, 10, 16), STATE);
    }

    private static void evenIsRounded() {
        int[][] spans = {{0, 16, 0}, {62, 63, 4}, {0, 17, 0}, {3, 10, 20}, {43, 43, 32}, {0, 43, 32}, {63, 0, 64}, {7, 0, 63}};
        for (int[] s : spans) {
            PageLines x = withSpan(s[0], s[1], s[2]);
            long dark = x.ofCell(0, 0, 2);
            long span = x.ofCell(0, 0, 3) - dark;
            for (int v = (int) dark; v <= dark + span; v++) {
                long even = x.even(0, 0, v);
                long twice = 2 * 255 * (v - dark);
                boolean nearest = (2 * even - 1) * span <= twice && twice < (2 * even + 1) * span;
                DUE.holds("6 EVEN of " + v + " from " + dark + " by " + span, nearest);
            }
        }
        // 255 times 1, 3, 5 by 170: 1.5, 4.5, 7.5
        PageLines half = withSpan(0, 43, 32);
        DUE.is("6 a half goes up", half.even(0, 0, 1), 2);
        DUE.is("6 a half goes up from an even number, too", half.even(0, 0, 3), 5);
        DUE.is("6 a half goes up again", half.even(0, 0, 5), 8);
    }

    private static void evenIs0BelowDark() {
        PageLines x = withSpan(63, 0, 64);
        for (int v = 0; v <= 63; v++) DUE.is("6 0 up to DARK", x.even(0, 0, v), 0);
        DUE.is("6 just above DARK", x.even(0, 0, 64), 1);
    }

    private static void evenIs255AtMost() {
        PageLines x = withSpan(0, 16, 0);
        DUE.is("6 just below BRIGHT", x.even(0, 0, 15), 239);
        for (int v = 16; v <= 255; v++) DUE.is("6 255 from BRIGHT on", x.even(0, 0, v), 255);
    }

    /** A page that is 0 in column 0 and 255 elsewhere; the cells of colour 0 in the columns are of no use. */
    private static PageLines bridged(int from, int to) {
        PageLines x = new PageLines();
        x.patch(0, 63, 0, 0, 0);
        for (int k = from; k <= to; k++) x.cell(0, k, 0, 0);
        x.strip(1);
        return x;
    }

    private static void values(String what, PageLines x, int... due) {
        for (int k = 0; k < 12; k++) DUE.is(what + ", column " + k, x.whole(9, 0, k), due[k]);
    }

    private static void bridgedFromBothSides() {
        values("23 one of no use", bridged(1, 1), 0, 128, 255, 255, 255, 255, 255, 255, 255, 255, 255, 255);
        values("23 two of no use", bridged(1, 2), 0, 85, 170, 255, 255, 255, 255, 255, 255, 255, 255, 255);
        values("23 all but the ends", bridged(1, 10), 0, 23, 46, 70, 93, 116, 139, 162, 185, 209, 232, 255);
    }

    private static void bridgedAtTheEnds() {
        values("23 the first of no use", bridged(0, 0), 255, 255, 255, 255, 255, 255, 255, 255, 255, 255, 255, 255);
        values("23 the last of no use", bridged(11, 11), 0, 255, 255, 255, 255, 255, 255, 255, 255, 255, 255, 255);
        values("23 only the first is LIVE", bridged(1, 11), 0, 0, 0, 0, 0, 0, 0, 0, 0, 0, 0, 0);
        values("23 only the last is LIVE", bridged(0, 10), 255, 255, 255, 255, 255, 255, 255, 255, 255, 255, 255, 255);
    }

    private static void bridgedByNone() {
        PageLines x = bridged(0, 11);
        values("23 none is LIVE", x, 0, 0, 0, 0, 0, 0, 0, 0, 0, 0, 0, 0);
        x.pipe(2, 7);
        values("23 none is LIVE, behind the pipe", x, 7, 7, 7, 7, 7, 7, 7, 7, 7, 7, 7, 7);
        x.begin(1);
        x.ticks(10);
        x.take();
        for (int k = 0; k < 12; k++) DUE.is("24 none is LIVE", x.pixel(0, 0, k), 7);
    }

    private static int between(int a, int b, int l, int k, int r) {
        PageLines x = new PageLines();
        x.patch(0, 63, 0, l, 0);
        x.patch(0, 63, r, 11, 0);
        x.tint(0, 0, a);
        x.tint(1, 0, b);
        for (int i = l + 1; i < r; i++) x.cell(0, i, 0, 0);
        x.strip(1);
        return x.whole(0, 0, k);
    }

    private static void bridgedHalfGoesUp() {
        DUE.is("23 0 and 1: a half", between(0, 1, 4, 5, 6), 1);
        DUE.is("23 1 and 0: a half", between(1, 0, 4, 5, 6), 1);
        DUE.is("23 1 and 2: a half", between(1, 2, 4, 5, 6), 2);
        DUE.is("23 0 and 1 by 3: a third", between(0, 1, 4, 5, 7), 0);
        DUE.is("23 0 and 1 by 3: two thirds", between(0, 1, 4, 6, 7), 1);
        DUE.is("23 0 and 2 by 4: a half", between(0, 2, 4, 5, 8), 1);
        DUE.is("23 2 and 0 by 4: three quarters of 2", between(2, 0, 4, 5, 8), 2);
        DUE.is("23 254 and 255: a half", between(254, 255, 0, 1, 2), 255);
        DUE.is("23 0 and 5 by 11: the least part", between(0, 5, 0, 1, 11), 0);
        DUE.is("23 0 and 6 by 11: more than a half", between(0, 6, 0, 1, 11), 1);
    }

    /** The last cell of a colour and the first of the next one are no neighbours. */
    private static void bridgedWithinOneColour() {
        PageLines x = new PageLines();
        x.patch(0, 63, 0, 11, 0);
        x.tint(0, 0, 10);
        x.tint(0, 1, 100);
        x.tint(0, 2, 200);
        x.cell(1, 0, 0, 0);
        x.cell(1, 11, 0, 0);
        x.cell(0, 11, 0, 0);
        x.cell(2, 0, 0, 0);
        x.strip(1);
        DUE.is("23 colour 0, column 11", x.whole(0, 0, 11), 10);
        DUE.is("23 colour 1, column 0", x.whole(0, 1, 0), 100);
        DUE.is("23 colour 1, column 11", x.whole(0, 1, 11), 100);
        DUE.is("23 colour 2, column 0", x.whole(0, 2, 0), 200);
    }

    /** A half is rounded as the light is told, as a cell is bridged, and as two positions are joined. */
    private static void bridgedAheadOfTheJoin() {
        PageLines x = new PageLines();
        x.ground(0);
        x.patch(4, 4, 6, 6, 0);
        x.tint(0, 1, 1);
        x.cell(1, 5, 0, 0);
        x.strip(1);
        DUE.is("23 LEAD 0", x.whole(4, 1, 5), 1);
        x.lead(1, 2);
        DUE.is("23 LEAD 2, the line behind the patch", x.whole(5, 1, 5), 1);
        DUE.is("23 LEAD 2, the next one", x.whole(6, 1, 5), 0);
        x.lead(1, 1);
        DUE.is("23 LEAD 1, the line behind the patch", x.whole(5, 1, 5), 0);
    }
}
