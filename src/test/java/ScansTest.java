/** Promises 13 to 23: lead, pipe, unpipe, piped, threshold, begin, ticks, take, stop, head, whole. */
public final class ScansTest {
    private static final int UNKNOWN = -1, OUTSIDE = -2, STATE = -3, FULL = -4, NONE = -9;
    private static final int REST = 0, UP = 1, READ = 2, OUT = 3, BACK = 4;
    private static final Due DUE = new Due("ScansTest");

    public static void main(String[] args) {
        lead();
        reach();
        pipe();
        pipeRefusals();
        unpipe();
        piped();
        threshold();
        begin();
        oneLine();
        reachDelays();
        lastLineFillsTheQueue();
        stopsAndJoins();
        risesWithTwoInTheQueue();
        ticksRefusals();
        take();
        stop();
        stopInUp();
        stopInRead();
        stopInOutAndBack();
        stopInRest();
        headTicks();
        headRefusals();
        wholeWithLeads();
        wholeThroughThePipe();
        wholeBridges();
        wholeRefusals();
        wholeIsAsNow();
        DUE.end();
    }

    private static void head(String when, PageLines x, int position, int mode, int next, int queued, int stops) {
        DUE.is(when + ", POSITION", x.head(0), position + 1000);
        DUE.is(when + ", MODE", x.head(1), mode);
        DUE.is(when + ", NEXT", x.head(2), next);
        DUE.is(when + ", QUEUE", x.head(3), queued);
        DUE.is(when + ", STOPS", x.head(4), stops);
    }

    private static void lead() {
        PageLines x = new PageLines();
        DUE.is("13 first", x.lead(1, 15), 0);
        DUE.is("13 then", x.lead(1, 3), 15);
        DUE.is("13 another", x.lead(2, 0), 0);
        DUE.is("13 colour 0", x.lead(0, 0), UNKNOWN);
        DUE.is("13 colour 3", x.lead(3, 16), UNKNOWN);
        DUE.is("13 colour -1", x.lead(-1, 0), UNKNOWN);
        DUE.is("13 above", x.lead(1, 16), OUTSIDE);
        DUE.is("13 below", x.lead(2, -1), OUTSIDE);
        x.begin(1);
        DUE.is("13 state", x.lead(1, 0), STATE);
        DUE.is("13 unknown in a scan", x.lead(0, 16), UNKNOWN);
        DUE.is("13 outside ahead of state", x.lead(1, 16), OUTSIDE);
        x.stop();
        DUE.is("13 unchanged", x.lead(1, 3), 3);
    }

    private static void reach() {
        PageLines x = new PageLines();
        int[] reach = {0, 1, 1, 1, 1, 2, 2, 2, 2, 3, 3, 3, 3, 4, 4, 4};
        for (int q = 0; q < 16; q++) {
            x.lead(2, q);
            DUE.is("22 REACH of LEAD " + q, x.head(7), reach[q]);
        }
        x.lead(1, 5);
        DUE.is("22 REACH is the greatest", x.head(7), 4);
        x.lead(2, 1);
        DUE.is("22 REACH of the other", x.head(7), 2);
        DUE.is("18 with REACH", x.begin(40), 42);
    }

    private static void pipe() {
        PageLines x = new PageLines();
        DUE.is("14 NEGATIVE", x.pipe(0, Integer.MIN_VALUE), 1);
        DUE.is("14 TIMES", x.pipe(1, 255), 2);
        DUE.is("14 MORE", x.pipe(2, -255), 3);
        DUE.is("14 CUT", x.pipe(3, 0), 4);
        DUE.is("14 full", x.pipe(0, 0), FULL);
        DUE.is("14 outside ahead of full", x.pipe(4, 0), OUTSIDE);
        x.begin(1);
        DUE.is("14 state ahead of full", x.pipe(0, 0), STATE);
        DUE.is("14 outside ahead of state", x.pipe(1, 256), OUTSIDE);
        DUE.is("14 STEPS", x.many(1), 4);
    }

    private static void pipeRefusals() {
        PageLines x = new PageLines();
        int[][] wrong = {{-1, 0}, {4, 0}, {1, -1}, {1, 256}, {2, -256}, {2, 256}, {3, -1}, {3, 256}, {Integer.MAX_VALUE, 0}};
        for (int[] w : wrong) DUE.is("14 outside " + w[0] + " " + w[1], x.pipe(w[0], w[1]), OUTSIDE);
        DUE.is("14 none came", x.many(1), 0);
        DUE.is("14 TIMES 0", x.pipe(1, 0), 1);
        DUE.is("14 MORE 255", x.pipe(2, 255), 2);
        DUE.is("14 CUT 255", x.pipe(3, 255), 3);
    }

    private static void unpipe() {
        PageLines x = new PageLines();
        DUE.is("15 none", x.unpipe(0), UNKNOWN);
        x.pipe(2, 1);
        x.pipe(1, 32);
        x.pipe(2, 10);
        x.pipe(0, 0);
        DUE.is("15 ahead", x.piped(20), 255 - (2 * 21 + 10));
        x.begin(1);
        DUE.is("15 state", x.unpipe(0), STATE);
        DUE.is("15 unknown first", x.unpipe(4), UNKNOWN);
        x.stop();
        DUE.is("15 below", x.unpipe(-1), UNKNOWN);
        DUE.is("15 a middle one", x.unpipe(1), 3);
        DUE.is("15 those behind move up", x.piped(20), 255 - 31);
        DUE.is("15 the first", x.unpipe(0), 2);
        DUE.is("15 two are left", x.piped(20), 255 - 30);
        DUE.is("15 the last", x.unpipe(1), 1);
        DUE.is("15 one is left", x.piped(20), 30);
        DUE.is("15 no more", x.unpipe(1), UNKNOWN);
        DUE.is("15 the only one", x.unpipe(0), 0);
        DUE.is("15 empty", x.piped(20), 20);
        DUE.is("15 room again", x.pipe(0, 0), 1);
    }

    private static void piped() {
        DUE.is("16 NEGATIVE 0", pipedBy(0, 7, 0), 255);
        DUE.is("16 NEGATIVE 255", pipedBy(0, 7, 255), 0);
        DUE.is("16 TIMES cut down", pipedBy(1, 7, 9), 3);
        DUE.is("16 TIMES 16", pipedBy(1, 16, 123), 123);
        DUE.is("16 TIMES at most", pipedBy(1, 17, 255), 255);
        DUE.is("16 TIMES 255", pipedBy(1, 255, 16), 255);
        DUE.is("16 TIMES 0", pipedBy(1, 0, 255), 0);
        DUE.is("16 MORE", pipedBy(2, 5, 100), 105);
        DUE.is("16 MORE at most", pipedBy(2, 5, 251), 255);
        DUE.is("16 MORE at least", pipedBy(2, -100, 99), 0);
        DUE.is("16 MORE down", pipedBy(2, -100, 101), 1);
        DUE.is("16 CUT below", pipedBy(3, 100, 99), 0);
        DUE.is("16 CUT at", pipedBy(3, 100, 100), 255);
        DUE.is("16 CUT 0", pipedBy(3, 0, 0), 255);
        PageLines x = new PageLines();
        x.pipe(2, 100);
        x.pipe(1, 8);
        DUE.is("16 each step is kept in 0 .. 255", x.piped(200), 127);
        DUE.is("16 in their order", x.piped(10), 55);
        DUE.is("16 above", x.piped(256), OUTSIDE);
        DUE.is("16 below", x.piped(-1), OUTSIDE);
        x.begin(1);
        DUE.is("16 in a scan", x.piped(10), 55);
    }

    private static int pipedBy(int kind, int n, int v) {
        PageLines x = new PageLines();
        x.pipe(kind, n);
        return x.piped(v);
    }

    private static void threshold() {
        PageLines x = new PageLines();
        DUE.is("17 first", x.threshold(0), 128);
        DUE.is("17 then", x.threshold(256), 0);
        DUE.is("17 above", x.threshold(257), OUTSIDE);
        DUE.is("17 below", x.threshold(-1), OUTSIDE);
        x.begin(1);
        DUE.is("17 state", x.threshold(5), STATE);
        DUE.is("17 outside ahead of state", x.threshold(257), OUTSIDE);
        x.stop();
        DUE.is("17 unchanged", x.threshold(9), 256);
    }

    private static void begin() {
        PageLines x = new PageLines();
        DUE.is("18 0", x.begin(0), OUTSIDE);
        DUE.is("18 41", x.begin(41), OUTSIDE);
        DUE.is("18 far", x.begin(Integer.MIN_VALUE), OUTSIDE);
        DUE.is("18 none is on", x.head(6), 0);
        DUE.is("18 least", x.begin(1), 1);
        DUE.is("18 on", x.head(6), 1);
        DUE.is("18 state", x.begin(1), STATE);
        DUE.is("18 outside ahead of state", x.begin(41), OUTSIDE);
        x.stop();
        x.lead(1, 15);
        DUE.is("18 most", x.begin(40), 44);
        x.ticks(17);
        x.take();
        x.stop();
        head("18 broken off", x, 12, OUT, 10, 0, 1);
        DUE.is("18 again", x.begin(2), 6);
        head("18 anew", x, -4, REST, 0, 0, 0);
        DUE.is("18 TICKS anew", x.head(5), 0);
        DUE.is("18 forgets", x.pixel(0, 0, 0), UNKNOWN);
        DUE.is("18 none is taken", x.many(2), 0);
        DUE.is("18 LINES", x.many(4), 2);
    }

    private static void oneLine() {
        PageLines x = new PageLines();
        x.begin(1);
        DUE.is("19 no tick", x.ticks(0), 0);
        head("19 begun", x, -4, REST, 0, 0, 0);
        DUE.is("19 to UP", x.ticks(1), 0);
        head("19 to UP", x, -4, UP, 0, 0, 0);
        DUE.is("19 in UP", x.ticks(3), 0);
        head("19 in UP", x, -1, UP, 0, 0, 0);
        DUE.is("19 to READ", x.ticks(1), 0);
        head("19 to READ", x, 0, READ, 0, 0, 0);
        DUE.is("19 read", x.ticks(1), 1);
        head("19 no stop at the end", x, 1, OUT, 1, 1, 0);
        DUE.is("19 in OUT", x.ticks(2), 0);
        head("19 in OUT", x, 3, OUT, 1, 1, 0);
        DUE.is("19 to BACK", x.ticks(1), 0);
        head("19 to BACK", x, 4, BACK, 1, 1, 0);
        DUE.is("19 in BACK", x.ticks(6), 0);
        head("19 in BACK", x, -2, BACK, 1, 1, 0);
        DUE.is("19 to REST", x.ticks(1), 0);
        head("19 to REST", x, -3, REST, 1, 1, 0);
        DUE.is("19 in REST", x.ticks(200), 0);
        head("19 nothing is wanted", x, -3, REST, 1, 1, 0);
        DUE.is("20 the line", x.take(), 0);
        DUE.is("20 the scan is over", x.head(6), 0);
    }

    private static void reachDelays() {
        PageLines x = new PageLines();
        x.lead(2, 9);
        DUE.is("18 POSITIONS", x.begin(2), 5);
        DUE.is("19 not whole yet", x.ticks(8), 0);
        head("19 POSITIONS 0 .. 2", x, 3, READ, 3, 0, 0);
        DUE.is("19 whole", x.ticks(1), 1);
        DUE.is("19 the second", x.ticks(1), 1);
        head("19 all are read", x, 5, OUT, 5, 2, 0);
    }

    private static void lastLineFillsTheQueue() {
        PageLines x = new PageLines();
        x.begin(6);
        DUE.is("19 six", x.ticks(11), 6);
        head("19 full at the end is no stop", x, 6, OUT, 6, 6, 0);
        PageLines y = new PageLines();
        y.begin(7);
        DUE.is("19 six of seven", y.ticks(11), 6);
        head("19 full ahead of the end is one", y, 6, OUT, 6, 6, 1);
    }

    private static void stopsAndJoins() {
        PageLines x = new PageLines();
        x.begin(9);
        DUE.is("19 full", x.ticks(200), 6);
        head("19 waits", x, 2, REST, 6, 6, 1);
        for (int i = 0; i < 6; i++) DUE.is("20 in order", x.take(), i);
        DUE.is("20 empty", x.take(), NONE);
        DUE.is("19 up again", x.ticks(5), 0);
        head("19 joins", x, 6, READ, 6, 0, 1);
        DUE.is("19 one", x.ticks(1), 1);
        DUE.is("20 goes on", x.take(), 6);
        DUE.is("19 the rest", x.ticks(2), 2);
        head("19 the end", x, 9, OUT, 9, 2, 1);
    }

    private static void risesWithTwoInTheQueue() {
        PageLines x = new PageLines();
        x.begin(12);
        x.ticks(200);
        for (int i = 0; i < 3; i++) x.take();
        DUE.is("19 three are too many", x.ticks(9), 0);
        DUE.is("19 rests", x.head(1), REST);
        x.take();
        x.ticks(1);
        DUE.is("19 two are few", x.head(1), UP);
        DUE.is("19 and four come", x.ticks(200), 4);
        head("19 again full", x, 6, REST, 10, 6, 2);
    }

    private static void ticksRefusals() {
        PageLines x = new PageLines();
        DUE.is("19 below", x.ticks(-1), OUTSIDE);
        DUE.is("19 above", x.ticks(201), OUTSIDE);
        DUE.is("19 far", x.ticks(Integer.MAX_VALUE), OUTSIDE);
        DUE.is("19 none counted", x.head(5), 0);
        DUE.is("19 most", x.ticks(200), 0);
        DUE.is("19 counted", x.head(5), 200);
        head("19 no scan", x, -4, REST, 0, 0, 0);
    }

    private static void take() {
        PageLines x = new PageLines();
        DUE.is("20 no scan", x.take(), STATE);
        x.begin(2);
        DUE.is("20 none yet", x.take(), NONE);
        x.ticks(6);
        DUE.is("20 first", x.take(), 0);
        DUE.is("20 queue", x.head(3), 0);
        DUE.is("20 none again", x.take(), NONE);
        DUE.is("20 still on", x.head(6), 1);
        x.ticks(1);
        DUE.is("20 last", x.take(), 1);
        DUE.is("20 over", x.take(), STATE);
        head("20 the head stays", x, 2, OUT, 2, 0, 0);
        DUE.is("20 taken stay", x.many(2), 2);
        x.ticks(3);
        head("20 the head goes on", x, 5, BACK, 2, 0, 0);
        DUE.is("20 changes are free", x.ground(9), 255);
    }

    private static void stop() {
        PageLines x = new PageLines();
        DUE.is("21 no scan", x.stop(), STATE);
        x.begin(40);
        DUE.is("21 all", x.stop(), 40);
        DUE.is("21 again", x.stop(), STATE);
        DUE.is("21 off", x.head(6), 0);
        x.begin(10);
        x.ticks(9);
        x.take();
        DUE.is("21 three are queued", x.head(3), 3);
        DUE.is("21 but one", x.stop(), 9);
        DUE.is("21 the queue is empty", x.head(3), 0);
        DUE.is("21 taken stay", x.pixel(0, 0, 0), 255);
        DUE.is("21 queued are lost", x.pixel(1, 0, 0), UNKNOWN);
        DUE.is("21 LINES stay told", x.many(4), 10);
        DUE.is("21 take", x.take(), STATE);
    }

    private static void stopInUp() {
        PageLines x = new PageLines();
        x.begin(3);
        x.ticks(4);
        x.stop();
        head("21 stays", x, -1, UP, 0, 0, 0);
        x.ticks(1);
        head("21 UP goes OUT, even at NEXT", x, 0, OUT, 0, 0, 0);
        x.ticks(3);
        head("21 OUT goes BACK", x, 3, BACK, 0, 0, 0);
        x.ticks(6);
        head("21 still BACK", x, -3, BACK, 0, 0, 0);
        x.ticks(1);
        head("21 REST", x, -4, REST, 0, 0, 0);
        x.ticks(100);
        head("21 stays in REST", x, -4, REST, 0, 0, 0);
        DUE.is("22 TICKS go on", x.head(5), 115);
    }

    private static void stopInRead() {
        PageLines x = new PageLines();
        x.begin(5);
        x.ticks(7);
        x.stop();
        head("21 stays in READ", x, 2, READ, 2, 0, 0);
        DUE.is("21 nothing is read", x.ticks(1), 0);
        head("21 READ goes OUT", x, 3, OUT, 2, 0, 0);
        x.ticks(3);
        head("21 three ticks", x, 6, BACK, 2, 0, 0);
        x.ticks(8);
        head("21 four less than NEXT", x, -2, REST, 2, 0, 0);
    }

    private static void stopInOutAndBack() {
        PageLines x = new PageLines();
        x.begin(9);
        x.ticks(13);
        x.stop();
        head("21 two OUT", x, 8, OUT, 6, 0, 1);
        x.ticks(1);
        head("21 the third", x, 9, BACK, 6, 0, 1);
        x.ticks(7);
        head("21 REST", x, 2, REST, 6, 0, 1);
        x.ticks(9);
        head("21 no more", x, 2, REST, 6, 0, 1);
        PageLines y = new PageLines();
        y.begin(9);
        y.ticks(16);
        y.stop();
        head("21 in BACK", y, 7, BACK, 6, 0, 1);
        y.ticks(5);
        head("21 from BACK to REST", y, 2, REST, 6, 0, 1);
        y.begin(1);
        y.ticks(9);
        head("21 three OUT again", y, 4, BACK, 1, 1, 0);
    }

    private static void stopInRest() {
        PageLines x = new PageLines();
        x.begin(1);
        x.stop();
        x.ticks(50);
        head("21 in REST", x, -4, REST, 0, 0, 0);
    }

    private static void headTicks() {
        PageLines x = new PageLines();
        x.ticks(5);
        x.ticks(6);
        DUE.is("22 all ahead of the first", x.head(5), 11);
        x.begin(1);
        DUE.is("22 since begin", x.head(5), 0);
        x.ticks(7);
        x.take();
        x.ticks(8);
        DUE.is("22 behind the scan, too", x.head(5), 15);
        x.begin(50);
        DUE.is("22 a refused begin", x.head(5), 15);
    }

    private static void headRefusals() {
        PageLines x = new PageLines();
        DUE.is("22 above", x.head(8), OUTSIDE);
        DUE.is("22 below", x.head(-1), OUTSIDE);
        DUE.is("22 far", x.head(Integer.MIN_VALUE), OUTSIDE);
    }

    private static void wholeWithLeads() {
        PageLines x = new PageLines();
        x.ground(100);
        x.patch(4, 4, 0, 11, 0);
        x.tint(0, 1, 200);
        int[][] lines = {
            // LINES 2 .. 6, for LEADS 0 .. 5, 8, 15
            {0, 100, 100, 200, 100, 100}, {1, 100, 119, 163, 119, 100}, {2, 100, 125, 150, 125, 100},
            {3, 100, 119, 163, 119, 100}, {4, 100, 100, 200, 100, 100}, {5, 100, 119, 163, 119, 100},
            {8, 100, 100, 200, 100, 100}, {15, 100, 119, 163, 119, 100}};
        for (int[] line : lines) {
            x.lead(1, line[0]);
            for (int y = 2; y <= 6; y++) {
                DUE.is("23 LEAD " + line[0] + ", LINE " + y, x.whole(y, 1, 7), line[y - 1]);
            }
        }
        x.blank();
        x.patch(0, 0, 0, 11, 0);
        x.lead(2, 1);
        DUE.is("23 LINE 0 sees rows below 0", x.whole(0, 2, 0), 38);
        x.lead(2, 0);
        DUE.is("23 LINE 0", x.whole(0, 2, 0), 0);
    }

    private static void wholeThroughThePipe() {
        PageLines x = new PageLines();
        x.ground(101);
        x.patch(0, 0, 0, 11, 0);
        x.tint(0, 1, 0);
        x.lead(1, 2);
        // POSITION 0 sees (101 + 0) by 2, rounded: 51; POSITION 1 the same; CUT comes behind both are joined.
        DUE.is("23 joined", x.whole(0, 1, 0), 51);
        DUE.is("23 joined behind", x.whole(1, 1, 0), 76);
        x.pipe(3, 76);
        DUE.is("23 cut behind the join", x.whole(1, 1, 0), 255);
        x.pipe(0, 0);
        DUE.is("23 steps in order", x.whole(1, 1, 0), 0);
        DUE.is("23 steps in order, below", x.whole(0, 1, 0), 255);
    }

    private static void wholeBridges() {
        PageLines x = new PageLines();
        x.ground(0);
        x.patch(0, 40, 4, 4, 0);
        for (int colour = 0; colour < 3; colour++) x.tint(0, colour, 90);
        for (int k = 2; k < 12; k++) {
            if (k != 4 && k != 8) x.cell(0, k, 0, 0);
        }
        x.cell(0, 0, 0, 0);
        x.strip(1);
        int[] due = {0, 0, 30, 60, 90, 68, 45, 23, 0, 0, 0, 0};
        for (int k = 0; k < 12; k++) DUE.is("23 bridged " + k, x.whole(3, 0, k), due[k]);
        x.cell(0, 1, 0, 0);
        x.cell(0, 8, 0, 0);
        x.strip(1);
        for (int k = 0; k < 12; k++) DUE.is("23 one live " + k, x.whole(3, 0, k), 90);
        x.cell(0, 4, 0, 0);
        x.strip(1);
        for (int k = 0; k < 12; k++) DUE.is("23 none live " + k, x.whole(3, 0, k), 0);
        DUE.is("23 another colour", x.whole(3, 1, 4), 90);
        x.pipe(0, 0);
        DUE.is("23 none live, through the pipe", x.whole(3, 0, 4), 255);
    }

    private static void wholeRefusals() {
        PageLines x = new PageLines();
        DUE.is("23 colour first", x.whole(40, 3, 0), UNKNOWN);
        DUE.is("23 column first", x.whole(-1, 0, 12), UNKNOWN);
        DUE.is("23 colour below", x.whole(0, -1, 0), UNKNOWN);
        DUE.is("23 column below", x.whole(0, 0, -1), UNKNOWN);
        DUE.is("23 line above", x.whole(40, 0, 0), OUTSIDE);
        DUE.is("23 line below", x.whole(-1, 0, 0), OUTSIDE);
        DUE.is("23 last line", x.whole(39, 2, 11), 255);
    }

    private static void wholeIsAsNow() {
        PageLines x = new PageLines();
        x.cell(0, 0, 20, 32);
        DUE.is("23 by the reading", x.whole(0, 0, 0), 147);
        x.strip(0);
        DUE.is("23 by DARK", x.whole(0, 0, 0), 138);
        x.strip(1);
        DUE.is("23 made even", x.whole(0, 0, 0), 255);
        x.speck(0, 55);
        DUE.is("23 by the speck", x.whole(0, 0, 0), 201);
        x.begin(3);
        DUE.is("23 in a scan, beyond its lines", x.whole(39, 0, 0), 201);
    }
}
