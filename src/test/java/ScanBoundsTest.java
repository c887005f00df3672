/**
 * The sentences of 'Terms', section 3, that name a boundary case, one method each, but for scans
 * that end or are broken off (BreakOffTest): leads, the empty and the full pipe and queue, the first
 * and the last position, what a tick does at the turn of a mode.
 */
public final class ScanBoundsTest {
    private static final int UNKNOWN = -1, OUTSIDE = -2, STATE = -3, FULL = -4, NONE = -9;
    private static final Due DUE = new Due("ScanBoundsTest");

    public static void main(String[] args) {
        leadsAtTheirEnds();
        colour0HasNoLead();
        seesAheadByQuarters();
        joinIsRounded();
        firstAndLastLine();
        emptyPipe();
        fullPipe();
        unpipeAtTheEnds();
        negativeOfAll();
        timesIsCutDownAnd255AtMost();
        moreIsHeldAt0And255();
        cutAtItsNumber();
        negativeIsNotLookedAt();
        everyStepIsHeld();
        thresholdAtItsEnds();
        reachOfAllLeads();
        beginAtItsEnds();
        firstLineByReach();
        tickByTick();
        noTicksAndMostTicks();
        emptyQueue();
        fullQueue();
        fiveInTheQueueReadOn();
        twoInTheQueueRunUp();
        nothingLeftToRead();
        stopsOnlyWithPositionsLeft();
        stopsOfALongScan();
        headAtItsEnds();
        wholeAtItsEnds();
        DUE.end();
    }

    private static void leadsAtTheirEnds() {
        PageLines x = new PageLines();
        for (int colour = 1; colour <= 2; colour++) {
            DUE.is("13 0 at first", x.lead(colour, 15), 0);
            DUE.is("13 16", x.lead(colour, 16), OUTSIDE);
            DUE.is("13 -1", x.lead(colour, -1), OUTSIDE);
            DUE.is("13 still 15", x.lead(colour, 0), 15);
            DUE.is("13 0", x.lead(colour, 7), 0);
        }
        DUE.is("13 each has its own", x.lead(1, 0), 7);
        DUE.is("13 the other's stays", x.lead(2, 0), 7);
    }

    private static void colour0HasNoLead() {
        PageLines x = new PageLines();
        for (int q : new int[] {-1, 0, 1, 15, 16}) DUE.is("13 colour 0", x.lead(0, q), UNKNOWN);
        for (int q : new int[] {-1, 0, 15, 16}) {
            DUE.is("13 colour -1", x.lead(-1, q), UNKNOWN);
            DUE.is("13 colour 3", x.lead(3, q), UNKNOWN);
        }
        x.lead(1, 15);
        x.lead(2, 15);
        x.patch(5, 5, 0, 11, 0);
        DUE.is("23 colour 0 never lags", x.whole(5, 0, 0), 0);
        DUE.is("23 nor ahead", x.whole(4, 0, 0), 255);
        DUE.is("23 nor behind", x.whole(6, 0, 0), 255);
    }

    /** Rows 10, 11, 12 of 40, 80, 200: with a rest of 1, LINE 11 joins 70 and 170, with 3 it joins 50 and 110. */
    private static void seesAheadByQuarters() {
        int[] due = {80, 95, 100, 95};
        for (int lead = 0; lead <= 15; lead++) {
            for (int colour = 1; colour <= 2; colour++) {
                PageLines x = new PageLines();
                x.ground(0);
                int[] tints = {40, 80, 200};
                for (int i = 0; i < 3; i++) {
                    x.patch(10 + i, 10 + i, 0, 11, 0);
                    x.tint(i, colour, tints[i]);
                }
                x.lead(colour, lead);
                DUE.is("23 LEAD " + lead, x.whole(11, colour, 6), due[lead % 4]);
            }
        }
    }

    private static int joined(int lead, int next) {
        PageLines x = new PageLines();
        x.ground(0);
        x.patch(12, 12, 0, 11, 0);
        x.tint(0, 2, next);
        x.lead(2, lead);
        return x.whole(11, 2, 0);
    }

    private static void joinIsRounded() {
        // the next position sees 3, 2, 1 quarters of row 12, by the rest
        DUE.is("23 0 and 2 by a quarter: a half goes up", joined(1, 2), 1);
        DUE.is("23 0 and 1 by a quarter goes down", joined(1, 1), 0);
        DUE.is("23 0 and 1 by two quarters: a half goes up", joined(2, 1), 1);
        DUE.is("23 0 and 1 by three quarters goes up", joined(3, 2), 1);
        DUE.is("23 0 and 0 by three quarters", joined(3, 1), 0);
        DUE.is("23 no rest, no next position", joined(4, 255), 0);
        DUE.is("23 rest 3 of 15", joined(15, 2), 1);
    }

    private static void firstAndLastLine() {
        PageLines x = new PageLines();
        x.patch(0, 39, 0, 11, 0);
        x.lead(1, 15);
        x.lead(2, 12);
        DUE.is("23 LINE 0 sees row -1, too", x.whole(0, 1, 0), 48);
        DUE.is("23 LINE 0 with no rest does not", x.whole(0, 2, 0), 0);
        DUE.is("23 LINE 39 sees row 40, too", x.whole(39, 1, 0), 48);
        DUE.is("23 LINE 39 with no rest does not", x.whole(39, 2, 0), 0);
        DUE.is("23 LINE 1", x.whole(1, 1, 0), 0);
        DUE.is("23 LINE 38", x.whole(38, 1, 0), 0);
    }

    private static void emptyPipe() {
        PageLines x = new PageLines();
        DUE.is("15 STEP 0", x.unpipe(0), UNKNOWN);
        DUE.is("15 STEP -1", x.unpipe(-1), UNKNOWN);
        for (int v : new int[] {0, 1, 254, 255}) DUE.is("16 as it is", x.piped(v), v);
        DUE.is("32 none", x.many(1), 0);
        x.pipe(0, 0);
        DUE.is("15 the only one", x.unpipe(0), 0);
        DUE.is("15 empty again", x.unpipe(0), UNKNOWN);
        DUE.is("16 as it is again", x.piped(9), 9);
    }

    private static void fullPipe() {
        PageLines x = new PageLines();
        for (int i = 1; i <= 4; i++) DUE.is("14 how many", x.pipe(2, i), i);
        DUE.is("14 a fifth", x.pipe(2, 100), FULL);
        DUE.is("14 it did not come", x.many(1), 4);
        DUE.is("16 nor is it gone through", x.piped(0), 10);
        DUE.is("15 STEP 4", x.unpipe(4), UNKNOWN);
        DUE.is("15 one less", x.unpipe(3), 3);
        DUE.is("14 room for one", x.pipe(2, 50), 4);
        DUE.is("14 full again", x.pipe(2, 100), FULL);
        DUE.is("16 the new one is the last", x.piped(0), 56);
    }

    private static PageLines fourSteps() {
        PageLines x = new PageLines();
        x.pipe(2, 3);
        x.pipe(1, 32);
        x.pipe(0, 0);
        x.pipe(2, -100);
        return x;
    }

    private static void unpipeAtTheEnds() {
        // without NEGATIVE 100 less than 46 is held at 0
        int[] due = {255 - 40 - 100, 255 - 23 - 100, 0, 255 - 46};
        DUE.is("16 all four", fourSteps().piped(20), 255 - 46 - 100);
        for (int k = 0; k < 4; k++) {
            PageLines x = fourSteps();
            DUE.is("15 three are left", x.unpipe(k), 3);
            DUE.is("15 without STEP " + k, x.piped(20), due[k]);
            DUE.is("15 STEP 3 is no more", x.unpipe(3), UNKNOWN);
        }
    }

    private static PageLines withStep(int kind, int n) {
        PageLines x = new PageLines();
        x.pipe(kind, n);
        return x;
    }

    private static void negativeOfAll() {
        PageLines x = withStep(0, 0);
        for (int v = 0; v <= 255; v++) DUE.is("16 it and its NEGATIVE", x.piped(v) + v, 255);
    }

    private static void timesIsCutDownAnd255AtMost() {
        for (int n = 0; n <= 255; n++) {
            PageLines x = withStep(1, n);
            for (int v = 0; v <= 255; v++) {
                int made = x.piped(v);
                boolean cutDown = 16 * made <= n * v && n * v < 16 * (made + 1);
                boolean most = made == 255 && n * v >= 16 * 255;
                DUE.holds("16 " + v + " TIMES " + n, cutDown || most);
            }
        }
    }

    private static void moreIsHeldAt0And255() {
        for (int n = -255; n <= 255; n++) {
            PageLines x = withStep(2, n);
            for (int v = 0; v <= 255; v++) {
                int due = v + n < 0 ? 0 : v + n > 255 ? 255 : v + n;
                DUE.is("16 " + v + " MORE " + n, x.piped(v), due);
            }
        }
    }

    private static void cutAtItsNumber() {
        for (int n = 0; n <= 255; n++) {
            PageLines x = withStep(3, n);
            if (n > 0) DUE.is("16 just below CUT " + n, x.piped(n - 1), 0);
            DUE.is("16 at CUT " + n, x.piped(n), 255);
            DUE.is("16 0 and CUT " + n, x.piped(0), n == 0 ? 255 : 0);
            DUE.is("16 255 and CUT " + n, x.piped(255), 255);
        }
    }

    private static void negativeIsNotLookedAt() {
        for (int n : new int[] {Integer.MIN_VALUE, -256, -1, 0, 256, Integer.MAX_VALUE}) {
            PageLines x = new PageLines();
            DUE.is("14 NEGATIVE with " + n, x.pipe(0, n), 1);
            DUE.is("16 NEGATIVE with " + n, x.piped(1), 254);
            DUE.is("14 kind 4 with " + n, x.pipe(4, n), OUTSIDE);
            DUE.is("14 kind -1 with " + n, x.pipe(-1, n), OUTSIDE);
        }
    }

    private static void everyStepIsHeld() {
        PageLines x = withStep(2, 255);
        x.pipe(2, -255);
        DUE.is("16 255 more and 255 less of 255", x.piped(255), 0);
        DUE.is("16 255 more and 255 less of 0", x.piped(0), 0);
        x.unpipe(0);
        x.pipe(2, 255);
        DUE.is("16 255 less and 255 more of 100", x.piped(100), 255);
        PageLines y = withStep(1, 255);
        y.pipe(1, 1);
        DUE.is("16 255 TIMES 255 is 255, TIMES 1 is 15", y.piped(255), 15);
        DUE.is("16 1 TIMES 255 is 15, TIMES 1 is 0", y.piped(1), 0);
    }

    private static void thresholdAtItsEnds() {
        PageLines x = new PageLines();
        DUE.is("17 128 at first", x.threshold(256), 128);
        DUE.is("17 257", x.threshold(257), OUTSIDE);
        DUE.is("17 -1", x.threshold(-1), OUTSIDE);
        DUE.is("17 still 256", x.threshold(0), 256);
        x.begin(1);
        DUE.is("17 in a scan", x.threshold(0), STATE);
        x.stop();
        DUE.is("17 begin leaves it", x.threshold(1), 0);
    }

    private static void reachOfAllLeads() {
        for (int a = 0; a <= 15; a++) {
            PageLines x = new PageLines();
            x.lead(1, a);
            for (int b = 0; b <= 15; b++) {
                x.lead(2, b);
                int reach = x.head(7);
                int most = Math.max(a, b);
                DUE.holds("22 REACH of " + a + " and " + b, 4 * reach >= most && 4 * (reach - 1) < most);
            }
        }
    }

    private static void beginAtItsEnds() {
        int[] leads = {0, 1, 4, 5, 8, 9, 12, 13, 15};
        int[] reach = {0, 1, 1, 2, 2, 3, 3, 4, 4};
        for (int i = 0; i < leads.length; i++) {
            PageLines x = new PageLines();
            x.lead(1 + i % 2, leads[i]);
            DUE.is("18 0", x.begin(0), OUTSIDE);
            DUE.is("18 41", x.begin(41), OUTSIDE);
            DUE.is("18 1", x.begin(1), 1 + reach[i]);
            x.stop();
            DUE.is("18 40", x.begin(40), 40 + reach[i]);
            DUE.is("18 begun already", x.begin(40), STATE);
        }
    }

    private static void firstLineByReach() {
        int[] leads = {0, 4, 8, 12, 15};
        for (int reach = 0; reach <= 4; reach++) {
            PageLines x = new PageLines();
            x.lead(2, leads[reach]);
            x.begin(1);
            DUE.is("19 up and positions ahead of REACH " + reach, x.ticks(5 + reach), 0);
            DUE.same("19 the position to be read", Trace.now(x), reach + "r");
            DUE.is("19 LINE 0 is whole behind REACH " + reach, x.ticks(1), 1);
            DUE.same("19 and it was the last position", Trace.now(x), (reach + 1) + "o");
        }
    }

    private static void tickByTick() {
        PageLines x = new PageLines();
        x.begin(7);
        DUE.same("19 at first", Trace.now(x), "-4.");
        DUE.same("19 up", Trace.of(x, 5), "-4u -3u -2u -1u 0r");
        DUE.is("19 NEXT stays in UP", x.head(2), 0);
        DUE.same("19 read", Trace.of(x, 6), "1r 2r 3r 4r 5r 6o");
        DUE.is("19 NEXT goes on in READ", x.head(2), 6);
        DUE.same("19 out and back", Trace.of(x, 11), "7o 8o 9b 8b 7b 6b 5b 4b 3b 2. 2.");
        DUE.is("19 NEXT stays in OUT and BACK", x.head(2), 6);
        for (int i = 0; i < 4; i++) x.take();
        DUE.same("19 joins where it left off", Trace.of(x, 5), "2u 3u 4u 5u 6r");
        DUE.same("19 the last position", Trace.of(x, 2), "7o 8o");
        DUE.same("19 to where a next one would be", Trace.of(x, 10), "9o 10b 9b 8b 7b 6b 5b 4b 3. 3.");
        DUE.is("19 TICKS", x.head(5), 39);
    }

    private static void noTicksAndMostTicks() {
        PageLines x = new PageLines();
        PageLines y = new PageLines();
        x.begin(40);
        y.begin(40);
        DUE.is("19 none", x.ticks(0), 0);
        DUE.is("22 none is counted", x.head(5), 0);
        DUE.is("19 -1", x.ticks(-1), OUTSIDE);
        DUE.is("19 201", x.ticks(201), OUTSIDE);
        DUE.is("22 a refused one is not counted", x.head(5), 0);
        DUE.is("19 200", x.ticks(200), 6);
        int came = 0;
        for (int i = 0; i < 200; i++) came += y.ticks(1);
        DUE.is("19 200 times 1", came, 6);
        for (int i = 0; i < 8; i++) DUE.is("22 200 and 200 times 1, head " + i, x.head(i), y.head(i));
        PageLines z = new PageLines();
        for (int i = 0; i < 500; i++) z.ticks(200);
        DUE.is("22 as many as an object can have", z.head(5), 100000);
        DUE.same("19 no scan, no move", Trace.now(z), "-4.");
    }

    private static void emptyQueue() {
        PageLines x = new PageLines();
        DUE.is("20 no scan", x.take(), STATE);
        x.begin(2);
        DUE.is("20 begun", x.take(), NONE);
        x.ticks(5);
        DUE.is("20 ahead of the first line", x.take(), NONE);
        DUE.is("20 NONE changes nothing", x.many(2), 0);
        DUE.is("20 nor ends the scan", x.head(6), 1);
        x.ticks(1);
        DUE.is("20 the first line", x.take(), 0);
        DUE.is("20 empty again", x.take(), NONE);
        DUE.is("22 empty", x.head(3), 0);
    }

    private static void fullQueue() {
        PageLines x = new PageLines();
        x.lead(1, 15);
        x.begin(40);
        DUE.is("19 six", x.ticks(200), 6);
        DUE.is("22 six", x.head(3), 6);
        DUE.is("19 and no more", x.ticks(200), 0);
        DUE.is("22 NEXT", x.head(2), 10);
        for (int i = 0; i < 6; i++) {
            DUE.is("20 the eldest", x.take(), i);
            DUE.is("22 one less", x.head(3), 5 - i);
        }
        DUE.is("20 empty", x.take(), NONE);
        DUE.is("19 six more", x.ticks(200), 6);
        DUE.is("20 none is lost in between", x.take(), 6);
    }

    private static void fiveInTheQueueReadOn() {
        PageLines x = new PageLines();
        x.begin(40);
        DUE.is("19 five", x.ticks(10), 5);
        DUE.same("19 five read on", Trace.now(x), "5r");
        x.take();
        DUE.same("19 taken in READ, five again", Trace.of(x, 1), "6r");
        DUE.same("19 six stop", Trace.of(x, 1), "7o");
        DUE.is("22 six", x.head(3), 6);
        DUE.is("22 STOPS", x.head(4), 1);
        PageLines y = new PageLines();
        y.begin(40);
        y.ticks(5);
        for (int i = 0; i < 40; i++) {
            DUE.is("19 one", y.ticks(1), 1);
            DUE.is("20 and it is taken", y.take(), i);
        }
        DUE.is("22 no STOPS if lines are taken in time", y.head(4), 0);
        DUE.is("22 the scan is over", y.head(6), 0);
        DUE.is("32 all lines", y.many(2), 40);
    }

    private static PageLines resting(int queued) {
        PageLines x = new PageLines();
        x.begin(20);
        x.ticks(100);
        for (int i = queued; i < 6; i++) x.take();
        return x;
    }

    private static void twoInTheQueueRunUp() {
        for (int queued = 3; queued <= 6; queued++) {
            DUE.same("19 rests with " + queued, Trace.of(resting(queued), 2), "2. 2.");
        }
        for (int queued = 0; queued <= 2; queued++) {
            DUE.same("19 runs up with " + queued, Trace.of(resting(queued), 2), "2u 3u");
        }
        PageLines x = resting(2);
        DUE.is("19 four have room", x.ticks(100), 4);
        PageLines y = resting(0);
        DUE.is("19 six have room", y.ticks(100), 6);
    }

    private static void nothingLeftToRead() {
        PageLines x = new PageLines();
        x.begin(2);
        DUE.is("19 two", x.ticks(100), 2);
        DUE.same("19 rests", Trace.of(x, 3), "-2. -2. -2.");
        x.take();
        DUE.same("19 rests with one in the queue", Trace.of(x, 2), "-2. -2.");
        DUE.is("22 the scan is on", x.head(6), 1);
        x.take();
        DUE.is("22 the scan is over", x.head(6), 0);
        DUE.same("19 rests then", Trace.of(x, 2), "-2. -2.");
        DUE.is("22 no STOPS", x.head(4), 0);
    }

    private static void stopsOnlyWithPositionsLeft() {
        int[] lines = {1, 5, 6, 7, 40};
        int[] stops = {0, 0, 0, 1, 1};
        for (int i = 0; i < lines.length; i++) {
            PageLines x = new PageLines();
            x.lead(1, 9);
            x.begin(lines[i]);
            x.ticks(200);
            DUE.is("22 STOPS of " + lines[i], x.head(4), stops[i]);
        }
    }

    /** STOPS of a scan in which lines are taken only as the head rests, down to so many in the queue. */
    private static int stopsOf(int n, int lead, int left) {
        PageLines x = new PageLines();
        x.lead(1, lead);
        x.begin(n);
        for (int i = 0; i < 12; i++) {
            x.ticks(60);
            for (int j = 0; j < 6 && x.head(3) > left; j++) x.take();
        }
        DUE.is("22 all are read", x.head(2), n + x.head(7));
        return x.head(4);
    }

    private static void stopsOfALongScan() {
        DUE.is("22 40 lines, six at a time", stopsOf(40, 0, 0), 6);
        DUE.is("22 40 lines, six at a time, with a reach", stopsOf(40, 15, 0), 6);
        DUE.is("22 36 lines end with a full queue", stopsOf(36, 0, 0), 5);
        DUE.is("22 37 lines stop once more", stopsOf(37, 0, 0), 6);
        DUE.is("22 40 lines, four at a time", stopsOf(40, 5, 2), 9);
        DUE.is("22 38 lines, four at a time", stopsOf(38, 5, 2), 8);
    }

    private static void headAtItsEnds() {
        PageLines x = new PageLines();
        DUE.is("22 -1", x.head(-1), OUTSIDE);
        DUE.is("22 8", x.head(8), OUTSIDE);
        DUE.is("22 POSITION -4", x.head(0), 996);
        x.lead(2, 13);
        DUE.is("22 REACH with no scan", x.head(7), 4);
        x.begin(40);
        x.ticks(5);
        for (int i = 0; i < 43; i++) {
            x.ticks(1);
            x.take();
        }
        DUE.is("22 POSITION 43", x.head(0), 1043);
        x.ticks(4);
        DUE.is("22 the farthest POSITION", x.head(0), 1047);
        DUE.is("22 the last NEXT", x.head(2), 44);
        DUE.is("22 MODE BACK", x.head(1), 4);
        x.ticks(7);
        DUE.same("19 four less than NEXT", Trace.now(x), "40.");
    }

    private static void wholeAtItsEnds() {
        PageLines x = new PageLines();
        DUE.is("23 -1", x.whole(-1, 0, 0), OUTSIDE);
        DUE.is("23 0", x.whole(0, 0, 0), 255);
        DUE.is("23 39", x.whole(39, 0, 0), 255);
        DUE.is("23 40", x.whole(40, 0, 0), OUTSIDE);
        x.begin(1);
        DUE.is("23 beyond the scan", x.whole(39, 0, 0), 255);
        x.ticks(30);
        x.take();
        DUE.is("23 no scan is on", x.whole(39, 2, 11), 255);
        DUE.is("23 it is not of those taken", x.pixel(39, 2, 11), UNKNOWN);
    }
}
