/**
 * How a scan ends: broken off in each mode, at its first and last tick there, or with its last line
 * taken; what the head does then, what stays, what is free again, and that the next scan is as the first.
 */
public final class BreakOffTest {
    private static final int UNKNOWN = -1, STATE = -3, NONE = -9;
    private static final Due DUE = new Due("BreakOffTest");

    public static void main(String[] args) {
        inRestJustBegun();
        inRestWithAFullQueue();
        inRestWithAllRead();
        inUpAtItsFirstTick();
        inUpAtItsLastTick();
        inUpTheSecondTime();
        inReadWithNothingRead();
        inReadAheadOfTheFirstWholeLine();
        inReadWithFiveQueued();
        inReadAheadOfTheLastPosition();
        inOut();
        inOutWithAllRead();
        inBack();
        twice();
        atEveryTick();
        beginsAnewFromEveryTick();
        lastLineTakenInOut();
        lastLineTakenInBackAndRest();
        lastLineButOneIsNotTheEnd();
        aScanOfOneLine();
        aScanOfFortyLines();
        DUE.end();
    }

    private static PageLines begun(int n, int ticks) {
        PageLines x = new PageLines();
        x.begin(n);
        x.ticks(ticks);
        return x;
    }

    /** Breaks a scan off: how many lines were not taken; then what holds in every mode, and the way of the head. */
    private static void breakOff(String when, PageLines x, int notTaken, String way) {
        String head = Trace.now(x);
        int[] kept = {x.head(2), x.head(4), x.head(5), x.many(2), x.many(4)};
        DUE.is(when + ": not taken", x.stop(), notTaken);
        DUE.same(when + ": the head stays as it is", Trace.now(x), head);
        DUE.is(when + ": the queue is empty", x.head(3), 0);
        DUE.is(when + ": no scan is on", x.head(6), 0);
        DUE.is(when + ": take", x.take(), STATE);
        DUE.is(when + ": stop again", x.stop(), STATE);
        int ticks = way.split(" ").length;
        DUE.same(when + ": its way", Trace.of(x, ticks), way);
        DUE.is(when + ": nothing comes", x.ticks(50), 0);
        DUE.same(when + ": it rests", Trace.now(x), way.substring(way.lastIndexOf(' ') + 1));
        DUE.is(when + ": NEXT stays", x.head(2), kept[0]);
        DUE.is(when + ": STOPS stay", x.head(4), kept[1]);
        DUE.is(when + ": TICKS go on", x.head(5), kept[2] + ticks + 50);
        DUE.is(when + ": taken lines stay", x.many(2), kept[3]);
        DUE.is(when + ": LINES of the scan stay", x.many(4), kept[4]);
        DUE.is(when + ": what was refused is taken", x.ground(9), 255);
    }

    private static void inRestJustBegun() {
        breakOff("21 REST, begun", begun(40, 0), 40, "-4. -4.");
        breakOff("21 REST, one line", begun(1, 0), 1, "-4. -4.");
    }

    private static void inRestWithAFullQueue() {
        PageLines x = begun(9, 100);
        DUE.is("21 REST, full", x.head(3), 6);
        breakOff("21 REST, full", x, 9, "2. 2.");
        PageLines y = begun(9, 100);
        for (int i = 0; i < 6; i++) y.take();
        breakOff("21 REST, emptied", y, 3, "2. 2.");
        DUE.is("21 REST, what was taken", y.pixel(5, 0, 0), 255);
        DUE.is("21 REST, what was not", y.pixel(6, 0, 0), UNKNOWN);
    }

    private static void inRestWithAllRead() {
        PageLines x = begun(2, 100);
        x.take();
        breakOff("21 REST, all read", x, 1, "-2. -2.");
        DUE.is("21 REST, a queued line is lost", x.pixel(1, 0, 0), UNKNOWN);
    }

    private static void inUpAtItsFirstTick() {
        breakOff("21 UP, first", begun(9, 1), 9, "-3o -2o -1o 0b -1b -2b -3b -4. -4.");
    }

    private static void inUpAtItsLastTick() {
        breakOff("21 UP, last", begun(9, 4), 9, "0o 1o 2o 3b 2b 1b 0b -1b -2b -3b -4. -4.");
    }

    private static void inUpTheSecondTime() {
        PageLines x = begun(9, 100);
        for (int i = 0; i < 4; i++) x.take();
        x.ticks(1);
        DUE.same("21 UP again", Trace.now(x), "2u");
        breakOff("21 UP again, first", x, 5, "3o 4o 5o 6b 5b 4b 3b 2. 2.");
        PageLines y = begun(9, 100);
        for (int i = 0; i < 6; i++) y.take();
        y.ticks(4);
        breakOff("21 UP again, last", y, 3, "6o 7o 8o 9b 8b 7b 6b 5b 4b 3b 2. 2.");
    }

    private static void inReadWithNothingRead() {
        breakOff("21 READ, first", begun(9, 5), 9, "1o 2o 3o 4b 3b 2b 1b 0b -1b -2b -3b -4. -4.");
    }

    private static void inReadAheadOfTheFirstWholeLine() {
        PageLines x = new PageLines();
        x.lead(1, 15);
        x.begin(1);
        x.ticks(9);
        DUE.same("21 READ, not whole", Trace.now(x), "4r");
        DUE.is("21 READ, none is whole", x.take(), NONE);
        breakOff("21 READ, not whole", x, 1, "5o 6o 7o 8b 7b 6b 5b 4b 3b 2b 1b 0. 0.");
    }

    private static void inReadWithFiveQueued() {
        PageLines x = begun(9, 10);
        DUE.is("21 READ, five", x.head(3), 5);
        breakOff("21 READ, five", x, 9, "6o 7o 8o 9b 8b 7b 6b 5b 4b 3b 2b 1. 1.");
    }

    private static void inReadAheadOfTheLastPosition() {
        PageLines x = begun(4, 8);
        x.take();
        DUE.same("21 READ, one is left", Trace.now(x), "3r");
        breakOff("21 READ, one is left", x, 3, "4o 5o 6o 7b 6b 5b 4b 3b 2b 1b 0b -1. -1.");
    }

    private static void inOut() {
        breakOff("21 OUT, first", begun(9, 11), 9, "7o 8o 9b 8b 7b 6b 5b 4b 3b 2. 2.");
        breakOff("21 OUT, second", begun(9, 12), 9, "8o 9b 8b 7b 6b 5b 4b 3b 2. 2.");
        breakOff("21 OUT, third", begun(9, 13), 9, "9b 8b 7b 6b 5b 4b 3b 2. 2.");
        DUE.is("21 a stop ahead of the break is told", begun(9, 11).head(4), 1);
    }

    private static void inOutWithAllRead() {
        breakOff("21 OUT, all read", begun(1, 6), 1, "2o 3o 4b 3b 2b 1b 0b -1b -2b -3. -3.");
    }

    private static void inBack() {
        breakOff("21 BACK, first", begun(9, 14), 9, "8b 7b 6b 5b 4b 3b 2. 2.");
        breakOff("21 BACK, last", begun(9, 20), 9, "2. 2.");
    }

    /** Three ticks OUT are counted anew for each time that the mode becomes OUT. */
    private static void twice() {
        PageLines x = begun(9, 13);
        x.stop();
        x.begin(9);
        x.ticks(1);
        breakOff("21 OUT, then UP of the next scan", x, 9, "-3o -2o -1o 0b -1b -2b -3b -4. -4.");
        PageLines y = begun(9, 2);
        y.stop();
        y.ticks(2);
        DUE.same("21 OUT", Trace.now(y), "-1o");
        y.begin(1);
        y.ticks(6);
        breakOff("21 OUT of a break, then OUT of a scan", y, 1, "2o 3o 4b 3b 2b 1b 0b -1b -2b -3. -3.");
    }

    /** In whatever mode a scan is broken off: the head comes to rest four positions ahead of NEXT. */
    private static void atEveryTick() {
        for (int ticks = 0; ticks <= 60; ticks++) {
            PageLines x = new PageLines();
            x.lead(2, 7);
            x.begin(12);
            int taken = 0;
            for (int i = 0; i < ticks; i++) {
                x.ticks(1);
                if (x.head(1) == 0 && x.take() != NONE) taken++;
            }
            int next = x.head(2);
            int stops = x.head(4);
            DUE.is("21 not taken at tick " + ticks, x.stop(), 12 - taken);
            DUE.is("21 nothing comes behind tick " + ticks, x.ticks(30), 0);
            DUE.same("21 rests behind tick " + ticks, Trace.now(x), (next - 4) + ".");
            DUE.is("21 NEXT behind tick " + ticks, x.head(2), next);
            DUE.is("21 STOPS behind tick " + ticks, x.head(4), stops);
            DUE.is("21 lines behind tick " + ticks, x.many(2), taken);
        }
    }

    private static void beginsAnewFromEveryTick() {
        for (int ticks = 0; ticks <= 40; ticks++) {
            PageLines x = begun(9, ticks);
            x.take();
            x.stop();
            x.ticks(ticks % 3);
            x.patch(1, 2, 3, 3, 0);
            DUE.is("18 POSITIONS", x.begin(8), 8);
            DUE.same("18 behind tick " + ticks, Trace.now(x), "-4.");
            int[] head = {996, 0, 0, 0, 0, 0, 1, 0};
            for (int i = 0; i < 8; i++) DUE.is("18 head " + i + " behind tick " + ticks, x.head(i), head[i]);
            DUE.is("18 lines are forgotten", x.many(2), 0);
            DUE.is("18 lines of the latest scan", x.many(4), 8);
            String way = "-4u -3u -2u -1u 0r 1r 2r 3r 4r 5r 6o 7o 8o 9b 8b 7b 6b 5b 4b 3b 2. 2.";
            DUE.same("19 as the first time", Trace.of(x, 22), way);
            DUE.is("20 from 0 on", x.take(), 0);
            DUE.is("20 then 1", x.take(), 1);
            DUE.is("26 by the page as it is", x.dark(1), 8);
            DUE.is("26 the line ahead", x.dark(0), 0);
        }
    }

    private static void lastLineTakenInOut() {
        PageLines x = begun(1, 6);
        DUE.is("20 the last line", x.take(), 0);
        DUE.is("22 over", x.head(6), 0);
        DUE.is("21 nothing to break off", x.stop(), STATE);
        DUE.is("20 nothing to take", x.take(), STATE);
        DUE.same("20 the head stays", Trace.now(x), "1o");
        DUE.same("20 and goes its way", Trace.of(x, 10), "2o 3o 4b 3b 2b 1b 0b -1b -2b -3.");
        DUE.same("20 to rest", Trace.of(x, 2), "-3. -3.");
        DUE.is("22 no STOPS", x.head(4), 0);
    }

    private static void lastLineTakenInBackAndRest() {
        PageLines x = begun(1, 9);
        x.take();
        DUE.same("20 in BACK", Trace.of(x, 8), "3b 2b 1b 0b -1b -2b -3. -3.");
        PageLines y = begun(1, 50);
        y.take();
        DUE.same("20 in REST", Trace.of(y, 2), "-3. -3.");
        DUE.is("18 at once again", y.begin(1), 1);
        DUE.same("18 the head is set back", Trace.now(y), "-4.");
    }

    private static void lastLineButOneIsNotTheEnd() {
        PageLines x = begun(6, 50);
        for (int i = 0; i < 5; i++) {
            x.take();
            DUE.is("22 on with " + (5 - i) + " left", x.head(6), 1);
            DUE.is("18 begin", x.begin(1), STATE);
            DUE.is("2 cell", x.cell(0, 0, 1, 1), STATE);
            DUE.is("14 pipe", x.pipe(0, 0), STATE);
        }
        x.take();
        DUE.is("22 over with none left", x.head(6), 0);
        DUE.is("2 cell then", x.cell(0, 0, 1, 1), 1);
        DUE.is("14 pipe then", x.pipe(0, 0), 1);
        DUE.is("32 lines stay", x.many(2), 6);
        DUE.is("24 as they were taken", x.pixel(5, 0, 0), 255);
        DUE.is("18 begin then", x.begin(1), 1);
        DUE.is("24 forgotten then", x.pixel(0, 0, 0), UNKNOWN);
    }

    private static void aScanOfOneLine() {
        PageLines x = begun(1, 6);
        x.take();
        DUE.is("24 LINE 0", x.pixel(0, 2, 11), 255);
        DUE.is("24 LINE 1", x.pixel(1, 2, 11), UNKNOWN);
        DUE.is("24 LINE -1", x.pixel(-1, 2, 11), UNKNOWN);
        DUE.is("32 one", x.many(2), 1);
    }

    private static void aScanOfFortyLines() {
        PageLines x = new PageLines();
        x.patch(39, 39, 11, 11, 0);
        x.lead(1, 15);
        x.begin(40);
        for (int i = 0; i < 40; i++) {
            if (x.head(3) == 0) x.ticks(60);
            DUE.is("20 in their order", x.take(), i);
        }
        DUE.is("20 the fortieth was the last", x.take(), STATE);
        DUE.is("32 forty", x.many(2), 40);
        DUE.is("24 LINE 39", x.pixel(39, 0, 11), 0);
        DUE.is("24 LINE 38", x.pixel(38, 0, 11), 255);
        DUE.is("24 LINE 40", x.pixel(40, 0, 11), UNKNOWN);
        DUE.is("25 LINE 40", x.grey(40, 0), UNKNOWN);
        DUE.is("26 LINE 40", x.dark(40), UNKNOWN);
        DUE.is("27 LINE 40", x.run(40, 0, 0), UNKNOWN);
        DUE.is("28 LINE 40", x.edge(40), UNKNOWN);
    }
}
