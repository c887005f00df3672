/**
 * A page scanner's works: three lines of cells that read a page row by row, a head that stops and
 * joins where it left off, and what can be told of the lines that were taken. The words in
 * capitals (CELL, LINE, REACH ..) are those of the document; refusals are told by the constants.
 */
public final class PageLines {
    public static final int UNKNOWN = -1, OUTSIDE = -2, STATE = -3, FULL = -4, NONE = -9;
    public static final long LOST = Long.MIN_VALUE;

    private static final int COLOURS = 3, COLUMNS = 12, CELLS = COLOURS * COLUMNS;
    private static final int TOP = 255, TOP_OFFSET = 63, TOP_GAIN = 127, PLAIN_GAIN = 64;
    private static final int LEAST_SPAN = 16;
    private static final int PATCHES = 12, LAST_PAGE_ROW = 63, TOP_SLANT = 16, FARTHEST_ROW = 1000;
    private static final int QUARTERS = 4, TOP_LEAD = 15;
    private static final int STEPS = 4, NEGATIVE = 0, TIMES = 1, MORE = 2, CUT = 3;
    private static final int TOP_THRESHOLD = 256, FIRST_THRESHOLD = 128;
    private static final int LINES = 40, TOP_TICKS = 200;
    private static final int QUEUE = 6, LOW_QUEUE = 2, RUN_UP = 4, RUN_OUT = 3;
    private static final int REST = 0, UP = 1, READ = 2, OUT = 3, BACK = 4;
    private static final int POSITION_TOLD_MORE = 1000;
    private static final int STICK_OUT = 24, STREAK = 4;
    private static final int GCD_ROUNDS = 200;

    private final Cells cells;
    private final Page page;
    private final Pipe steps;
    private final Scan scan;
    private final Lines lines;
    private final int[] leads;

    public PageLines() {
        cells = new Cells();
        page = new Page();
        steps = new Pipe();
        scan = new Scan();
        lines = new Lines();
        leads = new int[COLOURS];
    }

    // ---- 1 cells

    public int cell(int colour, int k, int offset, int gain) {
        if (!isCell(colour, k)) return UNKNOWN;
        if (!Numbers.within(offset, 0, TOP_OFFSET) || !Numbers.within(gain, 0, TOP_GAIN)) return OUTSIDE;
        if (scan.on) return STATE;
        int i = Cells.place(colour, k);
        cells.offset[i] = offset;
        cells.gain[i] = gain;
        return 1;
    }

    public int strip(int which) {
        if (!Numbers.within(which, 0, 1)) return OUTSIDE;
        if (scan.on) return STATE;
        cells.readStrip(which == 1);
        return cells.countLive();
    }

    public int ofCell(int colour, int k, int what) {
        if (!isCell(colour, k)) return UNKNOWN;
        int i = Cells.place(colour, k);
        switch (what) {
            case 0: return cells.offset[i];
            case 1: return cells.gain[i];
            case 2: return cells.dark[i];
            case 3: return cells.bright[i];
            case 4: return cells.isLive(i) ? 1 : 0;
            default: return OUTSIDE;
        }
    }

    public int reading(int colour, int k, int v) {
        if (!isCell(colour, k)) return UNKNOWN;
        if (!Numbers.within(v, 0, TOP)) return OUTSIDE;
        return cells.readingOf(Cells.place(colour, k), v);
    }

    public int even(int colour, int k, int x) {
        if (!isCell(colour, k)) return UNKNOWN;
        if (!Numbers.within(x, 0, TOP)) return OUTSIDE;
        int i = Cells.place(colour, k);
        if (!cells.isLive(i)) return STATE;
        return cells.evenOf(i, x);
    }

    // ---- 2 the page

    public int ground(int v) {
        if (!Numbers.within(v, 0, TOP)) return OUTSIDE;
        if (scan.on) return STATE;
        int was = page.ground;
        page.ground = v;
        return was;
    }

    public int patch(int from, int to, int left, int right, int slant) {
        if (from < 0 || from > to || to > LAST_PAGE_ROW) return OUTSIDE;
        if (left < 0 || left > right || right >= COLUMNS) return OUTSIDE;
        if (!Numbers.within(slant, -TOP_SLANT, TOP_SLANT)) return OUTSIDE;
        if (scan.on) return STATE;
        return page.lay(from, to, left, right, slant);
    }

    public int tint(int patch, int colour, int v) {
        if (patch < 0 || patch >= page.patches || !isColour(colour)) return UNKNOWN;
        if (!Numbers.within(v, 0, TOP)) return OUTSIDE;
        if (scan.on) return STATE;
        int i = patch * COLOURS + colour;
        int was = page.tints[i];
        page.tints[i] = v;
        return was;
    }

    public int blank() {
        if (scan.on) return STATE;
        int were = page.patches;
        page.patches = 0;
        return were;
    }

    public int speck(int k, int v) {
        if (!isColumn(k)) return UNKNOWN;
        if (!Numbers.within(v, 0, TOP)) return OUTSIDE;
        if (scan.on) return STATE;
        int was = page.specks[k];
        page.specks[k] = v;
        return was;
    }

    public int light(int colour, int k, int row, int quarter) {
        if (!isCell(colour, k)) return UNKNOWN;
        if (!Numbers.within(row, -FARTHEST_ROW, FARTHEST_ROW)) return OUTSIDE;
        if (!Numbers.within(quarter, 0, QUARTERS - 1)) return OUTSIDE;
        return page.lightOn(colour, k, row, quarter);
    }

    // ---- 3 scans

    public int lead(int colour, int q) {
        if (!isColour(colour) || colour == 0) return UNKNOWN;
        if (!Numbers.within(q, 0, TOP_LEAD)) return OUTSIDE;
        if (scan.on) return STATE;
        int was = leads[colour];
        leads[colour] = q;
        return was;
    }

    public int pipe(int kind, int n) {
        if (!Pipe.isStep(kind, n)) return OUTSIDE;
        if (scan.on) return STATE;
        return steps.addStep(kind, n);
    }

    public int unpipe(int k) {
        if (k < 0 || k >= steps.count) return UNKNOWN;
        if (scan.on) return STATE;
        steps.dropStep(k);
        return steps.count;
    }

    public int piped(int v) {
        if (!Numbers.within(v, 0, TOP)) return OUTSIDE;
        return steps.through(v);
    }

    public int threshold(int v) {
        if (!Numbers.within(v, 0, TOP_THRESHOLD)) return OUTSIDE;
        if (scan.on) return STATE;
        int was = lines.threshold;
        lines.threshold = v;
        return was;
    }

    public int begin(int n) {
        if (!Numbers.within(n, 1, LINES)) return OUTSIDE;
        if (scan.on) return STATE;
        scan.start(n, reach());
        lines.count = 0;
        return scan.positions;
    }

    public int ticks(int n) {
        if (!Numbers.within(n, 0, TOP_TICKS)) return OUTSIDE;
        int came = 0;
        for (int i = 0; i < n; i++) came += scan.tick();
        return came;
    }

    /**
     * The values of a LINE are worked out only here: nothing that they hang on can be changed
     * while a SCAN is on, so they are those that the HEAD read.
     */
    public int take() {
        if (!scan.on) return STATE;
        if (scan.queued <= 0 || lines.count >= LINES) return NONE;
        int y = lines.count;
        for (int colour = 0; colour < COLOURS; colour++) {
            for (int k = 0; k < COLUMNS; k++) {
                lines.values[y * CELLS + Cells.place(colour, k)] = lineValue(y, colour, k);
            }
        }
        lines.count++;
        scan.queued--;
        if (lines.count >= scan.lines) scan.on = false;
        return y;
    }

    public int stop() {
        if (!scan.on) return STATE;
        scan.on = false;
        scan.queued = 0;
        return scan.lines - lines.count;
    }

    public int head(int what) {
        switch (what) {
            case 0: return scan.position + POSITION_TOLD_MORE;
            case 1: return scan.mode;
            case 2: return scan.next;
            case 3: return scan.queued;
            case 4: return scan.stops;
            case 5: return scan.ticked;
            case 6: return scan.on ? 1 : 0;
            case 7: return reach();
            default: return OUTSIDE;
        }
    }

    public int whole(int y, int colour, int k) {
        if (!isCell(colour, k)) return UNKNOWN;
        if (!Numbers.within(y, 0, LINES - 1)) return OUTSIDE;
        return lineValue(y, colour, k);
    }

    // ---- 4 lines that were taken

    public int pixel(int y, int colour, int k) {
        if (!lines.has(y) || !isCell(colour, k)) return UNKNOWN;
        return lines.values[y * CELLS + Cells.place(colour, k)];
    }

    public int grey(int y, int k) {
        if (!lines.has(y) || !isColumn(k)) return UNKNOWN;
        return lines.greyOf(y, k);
    }

    public int dark(int y) {
        if (!lines.has(y)) return UNKNOWN;
        return lines.darkSet(y);
    }

    public int run(int y, int k, int what) {
        if (!lines.has(y)) return UNKNOWN;
        int set = lines.darkSet(y);
        int first = Lines.runStart(set, k);
        if (first == NONE) return UNKNOWN;
        switch (what) {
            case 0: return first;
            case 1: return Lines.runLength(set, first);
            default: return OUTSIDE;
        }
    }

    public int edge(int y) {
        if (!lines.has(y)) return UNKNOWN;
        return lines.edgeOf(y);
    }

    public long skew(int which) {
        if (!Numbers.within(which, 0, 1)) return LOST;
        return lines.skewPart(which == 1);
    }

    public int longest(int k) {
        if (!isColumn(k)) return UNKNOWN;
        return lines.longestOf(k);
    }

    public int streaks() {
        int set = 0;
        for (int k = 0; k < COLUMNS; k++) {
            if (lines.longestOf(k) >= STREAK) set |= 1 << k;
        }
        return set;
    }

    public int many(int what) {
        switch (what) {
            case 0: return page.patches;
            case 1: return steps.count;
            case 2: return lines.count;
            case 3: return cells.countLive();
            case 4: return scan.lines;
            case 5: return lines.countRuns();
            default: return OUTSIDE;
        }
    }

    // ---- what the calls above share

    private static boolean isColour(int colour) {
        return Numbers.within(colour, 0, COLOURS - 1);
    }

    private static boolean isColumn(int k) {
        return Numbers.within(k, 0, COLUMNS - 1);
    }

    private static boolean isCell(int colour, int k) {
        return isColour(colour) && isColumn(k);
    }

    private int reach() {
        int most = 0;
        for (int colour = 0; colour < COLOURS; colour++) {
            most = Math.max(most, (leads[colour] + QUARTERS - 1) / QUARTERS);
        }
        return most;
    }

    private int lineValue(int y, int colour, int k) {
        int position = y + leads[colour] / QUARTERS;
        int rest = leads[colour] % QUARTERS;
        int value = valueAt(position, colour, k);
        if (rest > 0) {
            int behind = valueAt(position + 1, colour, k);
            value = Numbers.rounded(value * (QUARTERS - rest) + behind * rest, QUARTERS);
        }
        return steps.through(value);
    }

    /** VALUE of a CELL as read at a POSITION; one that is not LIVE is bridged. */
    private int valueAt(int position, int colour, int k) {
        int left = cells.nearestLive(colour, k, -1);
        if (left == k) return liveValue(position, colour, k);
        int right = cells.nearestLive(colour, k, 1);
        if (left == NONE && right == NONE) return 0;
        if (left == NONE) return liveValue(position, colour, right);
        if (right == NONE) return liveValue(position, colour, left);
        int a = liveValue(position, colour, left);
        int b = liveValue(position, colour, right);
        return Numbers.rounded(a * (right - k) + b * (k - left), right - left);
    }

    private int liveValue(int position, int colour, int k) {
        int seen = QUARTERS * position - leads[colour];
        int row = Math.floorDiv(seen, QUARTERS);
        int light = page.lightOn(colour, k, row, seen - QUARTERS * row);
        int i = Cells.place(colour, k);
        return cells.evenOf(i, cells.readingOf(i, light));
    }

    /** What is asked of numbers in more than one place. */
    static final class Numbers {
        static boolean within(int v, int least, int most) {
            return v >= least && v <= most;
        }

        static int atMostTop(int v) {
            return Math.min(TOP, v);
        }

        /** A number that is not below 0, by one above 0: the nearest whole one, a half goes up. */
        static int rounded(int upper, int by) {
            if (by < 1) return 0;
            return (2 * upper + by) / (2 * by);
        }

        /** The greatest number that divides both; a number's sign is not looked at. */
        static long greatestDivisor(long one, long other) {
            long a = Math.abs(one);
            long b = Math.abs(other);
            for (int i = 0; i < GCD_ROUNDS && b != 0; i++) {
                long rest = a % b;
                a = b;
                b = rest;
            }
            return a;
        }
    }

    /** All CELLS, those of one colour side by side. */
    static final class Cells {
        final int[] offset = new int[CELLS];
        final int[] gain = new int[CELLS];
        final int[] dark = new int[CELLS];
        final int[] bright = new int[CELLS];

        Cells() {
            for (int i = 0; i < CELLS; i++) {
                gain[i] = PLAIN_GAIN;
                bright[i] = TOP;
            }
        }

        static int place(int colour, int k) {
            return colour * COLUMNS + k;
        }

        int readingOf(int i, int v) {
            return Numbers.atMostTop(offset[i] + v * gain[i] / PLAIN_GAIN);
        }

        void readStrip(boolean isBright) {
            for (int i = 0; i < CELLS; i++) {
                if (isBright) bright[i] = readingOf(i, TOP);
                else dark[i] = readingOf(i, 0);
            }
        }

        boolean isLive(int i) {
            return bright[i] - dark[i] >= LEAST_SPAN;
        }

        int countLive() {
            int live = 0;
            for (int i = 0; i < CELLS; i++) {
                if (isLive(i)) live++;
            }
            return live;
        }

        int evenOf(int i, int x) {
            if (x < dark[i]) return 0;
            return Numbers.atMostTop(Numbers.rounded(TOP * (x - dark[i]), bright[i] - dark[i]));
        }

        /** The column of the first LIVE CELL from k on (k itself, too), by steps of 1 or -1; NONE. */
        int nearestLive(int colour, int k, int step) {
            int column = k;
            for (int i = 0; i < COLUMNS && column >= 0 && column < COLUMNS; i++) {
                if (isLive(place(colour, column))) return column;
                column += step;
            }
            return NONE;
        }
    }

    /** The GROUND, the PATCHES in the order in which they came, and the SPECKS ahead of the CELLS. */
    static final class Page {
        int ground = TOP;
        int patches;
        final int[] firstRow = new int[PATCHES];
        final int[] lastRow = new int[PATCHES];
        final int[] firstColumn = new int[PATCHES];
        final int[] lastColumn = new int[PATCHES];
        final int[] slants = new int[PATCHES];
        final int[] tints = new int[PATCHES * COLOURS];
        final int[] specks = new int[COLUMNS];

        /** The number of the PATCH that came; FULL. */
        int lay(int from, int to, int left, int right, int slant) {
            int p = patches;
            if (p >= PATCHES) return FULL;
            firstRow[p] = from;
            lastRow[p] = to;
            firstColumn[p] = left;
            lastColumn[p] = right;
            slants[p] = slant;
            // A PATCH that is no more may have stood here.
            for (int colour = 0; colour < COLOURS; colour++) tints[p * COLOURS + colour] = 0;
            patches++;
            return p;
        }

        boolean covers(int p, int row, int k) {
            if (row < firstRow[p] || row > lastRow[p]) return false;
            // >> goes to the lesser whole number below 0, too, where a division would not.
            int column = k - (slants[p] * (row - firstRow[p]) >> 3);
            return column >= firstColumn[p] && column <= lastColumn[p];
        }

        int tintAt(int colour, int row, int k) {
            for (int p = patches - 1; p >= 0; p--) {
                if (covers(p, row, k)) return tints[p * COLOURS + colour];
            }
            return ground;
        }

        int lightOn(int colour, int k, int row, int quarter) {
            int here = tintAt(colour, row, k);
            int behind = tintAt(colour, row + 1, k);
            int both = Numbers.rounded((QUARTERS - quarter) * here + quarter * behind, QUARTERS);
            return Math.max(0, both - specks[k]);
        }
    }

    /** The STEPS that each value goes through. */
    static final class Pipe {
        int count;
        final int[] kinds = new int[STEPS];
        final int[] numbers = new int[STEPS];

        static boolean isStep(int kind, int n) {
            switch (kind) {
                case NEGATIVE: return true;
                case TIMES: return Numbers.within(n, 0, TOP);
                case MORE: return Numbers.within(n, -TOP, TOP);
                case CUT: return Numbers.within(n, 0, TOP);
                default: return false;
            }
        }

        /** How many STEPS there are then; FULL. */
        int addStep(int kind, int n) {
            if (count >= STEPS) return FULL;
            kinds[count] = kind;
            numbers[count] = n;
            count++;
            return count;
        }

        void dropStep(int k) {
            for (int i = k; i + 1 < count; i++) {
                kinds[i] = kinds[i + 1];
                numbers[i] = numbers[i + 1];
            }
            count--;
        }

        int through(int v) {
            int value = v;
            for (int i = 0; i < count; i++) value = stepped(kinds[i], numbers[i], value);
            return value;
        }

        static int stepped(int kind, int n, int v) {
            switch (kind) {
                case NEGATIVE: return TOP - v;
                case TIMES: return Numbers.atMostTop(n * v / 16);
                case MORE: return Numbers.atMostTop(Math.max(0, v + n));
                case CUT: return v >= n ? TOP : 0;
                default: return v;
            }
        }
    }

    /** The HEAD, the latest SCAN, and how many LINES stand in the QUEUE. */
    static final class Scan {
        boolean on;
        int lines;
        int reach;
        int positions;
        int queued;
        int position = -RUN_UP;
        int next;
        int mode = REST;
        int outTicks;
        int stops;
        int ticked;

        void start(int n, int scanReach) {
            on = true;
            lines = n;
            reach = scanReach;
            positions = n + scanReach;
            queued = 0;
            position = -RUN_UP;
            next = 0;
            mode = REST;
            stops = 0;
            ticked = 0;
        }

        boolean wantsMore() {
            return on && next < positions;
        }

        /** One TICK: how many LINES (0 or 1) came to the QUEUE by it. */
        int tick() {
            ticked++;
            switch (mode) {
                case REST:
                    if (wantsMore() && queued <= LOW_QUEUE) mode = UP;
                    return 0;
                case UP:
                    runUp();
                    return 0;
                case READ:
                    return readOne();
                case OUT:
                    runOut();
                    return 0;
                default:
                    goBack();
                    return 0;
            }
        }

        void runUp() {
            position++;
            // Nothing is wanted in UP only if the SCAN was broken off.
            if (!wantsMore()) leave();
            else if (position == next) mode = READ;
        }

        int readOne() {
            if (!wantsMore()) {
                position++;
                leave();
                return 0;
            }
            int came = position >= reach ? 1 : 0;
            queued += came;
            position++;
            next++;
            if (!wantsMore() || queued >= QUEUE) leave();
            return came;
        }

        void leave() {
            if (wantsMore()) stops++;
            mode = OUT;
            outTicks = 0;
        }

        void runOut() {
            position++;
            outTicks++;
            if (outTicks >= RUN_OUT) mode = BACK;
        }

        void goBack() {
            position--;
            if (position == next - RUN_UP) mode = REST;
        }
    }

    /** The LINES of the latest SCAN that were taken, 0 .. count - 1, and what is asked of them. */
    static final class Lines {
        int count;
        int threshold = FIRST_THRESHOLD;
        final int[] values = new int[LINES * CELLS];

        boolean has(int y) {
            return y >= 0 && y < count;
        }

        int greyOf(int y, int k) {
            int i = y * CELLS + k;
            int sum = 2 * values[i] + 5 * values[i + COLUMNS] + values[i + 2 * COLUMNS];
            return Numbers.rounded(sum, 8);
        }

        int darkSet(int y) {
            int set = 0;
            for (int k = 0; k < COLUMNS; k++) {
                if (greyOf(y, k) < threshold) set |= 1 << k;
            }
            return set;
        }

        int edgeOf(int y) {
            return runStart(darkSet(y), 0);
        }

        static boolean isIn(int set, int k) {
            return (set >> k & 1) == 1;
        }

        static boolean startsRun(int set, int k) {
            return isIn(set, k) && (k == 0 || !isIn(set, k - 1));
        }

        /** The first column of a RUN of a set of DARK columns; NONE if there is no such RUN. */
        static int runStart(int set, int number) {
            int seen = 0;
            for (int k = 0; k < COLUMNS; k++) {
                if (!startsRun(set, k)) continue;
                if (seen == number) return k;
                seen++;
            }
            return NONE;
        }

        static int runLength(int set, int first) {
            int length = 0;
            for (int k = first; k < COLUMNS && isIn(set, k); k++) length++;
            return length;
        }

        int countRuns() {
            int runs = 0;
            for (int y = 0; y < count; y++) {
                int set = darkSet(y);
                for (int k = 0; k < COLUMNS; k++) {
                    if (startsRun(set, k)) runs++;
                }
            }
            return runs;
        }

        /** The upper or the lower number of SKEW; LOST with fewer than two EDGES. */
        long skewPart(boolean isLower) {
            long n = 0;
            long sumY = 0;
            long sumEdge = 0;
            long sumYEdge = 0;
            long sumYY = 0;
            for (int y = 0; y < count; y++) {
                int edge = edgeOf(y);
                if (edge == NONE) continue;
                n++;
                sumY += y;
                sumEdge += edge;
                sumYEdge += (long) y * edge;
                sumYY += (long) y * y;
            }
            if (n < 2) return LOST;
            long upper = n * sumYEdge - sumY * sumEdge;
            long lower = n * sumYY - sumY * sumY;
            // LINES have different numbers, so lower and with it the divisor are above 0.
            long divisor = Numbers.greatestDivisor(upper, lower);
            if (divisor < 1) return LOST;
            return isLower ? lower / divisor : upper / divisor;
        }

        int longestOf(int k) {
            int most = 0;
            int length = 0;
            int way = 0;
            for (int y = 0; y < count; y++) {
                int now = wayOut(y, k);
                if (now == 0) length = 0;
                else if (now == way) length++;
                else length = 1;
                way = now;
                most = Math.max(most, length);
            }
            return most;
        }

        /** 1 if a column STICKS OUT up in a LINE, -1 if down, else 0. */
        int wayOut(int y, int k) {
            if (k < 1 || k > COLUMNS - 2) return 0;
            int left = greyOf(y, k - 1);
            int here = greyOf(y, k);
            int right = greyOf(y, k + 1);
            if (here - left >= STICK_OUT && here - right >= STICK_OUT) return 1;
            if (left - here >= STICK_OUT && right - here >= STICK_OUT) return -1;
            return 0;
        }
    }
}
