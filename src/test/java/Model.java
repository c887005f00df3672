import java.math.BigInteger;
import java.util.ArrayDeque;
import java.util.ArrayList;
import java.util.HashMap;
import java.util.List;
import java.util.Map;

/**
 * The document told a second time, another way: rows are really read as the head passes, lines are
 * put together from them as they become whole, fractions are kept until they are rounded.
 */
final class Model {
    static final int UNKNOWN = -1, OUTSIDE = -2, STATE = -3, FULL = -4, NONE = -9;
    static final long LOST = Long.MIN_VALUE;

    private enum Mode { REST, UP, READ, OUT, BACK }

    private static final class Cell {
        int offset = 0, gain = 64, dark = 0, bright = 255;

        boolean live() {
            return bright >= dark + 16;
        }

        int reads(int v) {
            return Math.min(255, offset + (int) Math.floor(v * gain / 64.0));
        }

        int evens(int x) {
            if (x < dark) return 0;
            return (int) Math.min(255, nearest(255L * (x - dark), bright - dark));
        }
    }

    private record Patch(int from, int to, int left, int right, int slant, int[] tints) {
        boolean covers(int row, int k) {
            if (row < from || row > to) return false;
            int shift = (int) Math.floor(slant * (row - from) / 8.0);
            return left <= k - shift && k - shift <= right;
        }
    }

    private record Line(int number, int[][] values) {
    }

    private record Step(int kind, int n) {
        int of(int v) {
            if (kind == 0) return 255 - v;
            if (kind == 1) return Math.min(255, n * v / 16);
            if (kind == 2) return Math.max(0, Math.min(255, v + n));
            return v < n ? 0 : 255;
        }
    }

    private final Cell[][] cells = new Cell[3][12];
    private int ground = 255;
    private final List<Patch> patches = new ArrayList<>();
    private final int[] specks = new int[12];
    private final int[] leads = new int[3];
    private final List<Step> pipe = new ArrayList<>();
    private int threshold = 128;

    private boolean on = false;
    private int size = 0;
    private int last = -1;
    private int reachOfScan = 0;
    private final Map<Integer, int[][]> rows = new HashMap<>();
    private final ArrayDeque<Line> queue = new ArrayDeque<>();
    private final List<Line> taken = new ArrayList<>();
    private Mode mode = Mode.REST;
    private int position = -4, next = 0, outs = 0, stops = 0, ticks = 0;

    Model() {
        for (Cell[] row : cells) {
            for (int k = 0; k < 12; k++) row[k] = new Cell();
        }
    }

    private static long nearest(long upper, long by) {
        return Math.floorDiv(2 * upper + by, 2 * by);
    }

    private static boolean colour(int colour) {
        return colour == 0 || colour == 1 || colour == 2;
    }

    private static boolean column(int k) {
        return 0 <= k && k < 12;
    }

    private static boolean out(int v, int least, int most) {
        return v < least || v > most;
    }

    // cells

    int cell(int colour, int k, int offset, int gain) {
        if (!colour(colour) || !column(k)) return UNKNOWN;
        if (out(offset, 0, 63) || out(gain, 0, 127)) return OUTSIDE;
        if (on) return STATE;
        cells[colour][k].offset = offset;
        cells[colour][k].gain = gain;
        return 1;
    }

    private int live() {
        int n = 0;
        for (Cell[] row : cells) {
            for (Cell cell : row) n += cell.live() ? 1 : 0;
        }
        return n;
    }

    int strip(int which) {
        if (out(which, 0, 1)) return OUTSIDE;
        if (on) return STATE;
        for (Cell[] row : cells) {
            for (Cell cell : row) {
                if (which == 0) cell.dark = cell.reads(0);
                if (which == 1) cell.bright = cell.reads(255);
            }
        }
        return live();
    }

    int ofCell(int colour, int k, int what) {
        if (!colour(colour) || !column(k)) return UNKNOWN;
        if (out(what, 0, 4)) return OUTSIDE;
        Cell c = cells[colour][k];
        return new int[] {c.offset, c.gain, c.dark, c.bright, c.live() ? 1 : 0}[what];
    }

    int reading(int colour, int k, int v) {
        if (!colour(colour) || !column(k)) return UNKNOWN;
        return out(v, 0, 255) ? OUTSIDE : cells[colour][k].reads(v);
    }

    int even(int colour, int k, int x) {
        if (!colour(colour) || !column(k)) return UNKNOWN;
        if (out(x, 0, 255)) return OUTSIDE;
        return cells[colour][k].live() ? cells[colour][k].evens(x) : STATE;
    }

    // the page

    int ground(int v) {
        if (out(v, 0, 255)) return OUTSIDE;
        if (on) return STATE;
        int was = ground;
        ground = v;
        return was;
    }

    int patch(int from, int to, int left, int right, int slant) {
        if (!(0 <= from && from <= to && to <= 63)) return OUTSIDE;
        if (!(0 <= left && left <= right && right <= 11)) return OUTSIDE;
        if (out(slant, -16, 16)) return OUTSIDE;
        if (on) return STATE;
        if (patches.size() == 12) return FULL;
        patches.add(new Patch(from, to, left, right, slant, new int[3]));
        return patches.size() - 1;
    }

    int tint(int patch, int colour, int v) {
        if (patch < 0 || patch >= patches.size() || !colour(colour)) return UNKNOWN;
        if (out(v, 0, 255)) return OUTSIDE;
        if (on) return STATE;
        int was = patches.get(patch).tints()[colour];
        patches.get(patch).tints()[colour] = v;
        return was;
    }

    int blank() {
        if (on) return STATE;
        int n = patches.size();
        patches.clear();
        return n;
    }

    int speck(int k, int v) {
        if (!column(k)) return UNKNOWN;
        if (out(v, 0, 255)) return OUTSIDE;
        if (on) return STATE;
        int was = specks[k];
        specks[k] = v;
        return was;
    }

    private int has(int colour, int row, int k) {
        int tint = ground;
        for (Patch p : patches) {
            if (p.covers(row, k)) tint = p.tints()[colour];
        }
        return tint;
    }

    int light(int colour, int k, int row, int quarter) {
        if (!colour(colour) || !column(k)) return UNKNOWN;
        if (out(row, -1000, 1000) || out(quarter, 0, 3)) return OUTSIDE;
        long seen = nearest((4L - quarter) * has(colour, row, k) + (long) quarter * has(colour, row + 1, k), 4);
        return (int) Math.max(0, seen - specks[k]);
    }

    // scans

    int lead(int colour, int q) {
        if (colour != 1 && colour != 2) return UNKNOWN;
        if (out(q, 0, 15)) return OUTSIDE;
        if (on) return STATE;
        int was = leads[colour];
        leads[colour] = q;
        return was;
    }

    int pipe(int kind, int n) {
        if (out(kind, 0, 3)) return OUTSIDE;
        if ((kind == 1 || kind == 3) && out(n, 0, 255)) return OUTSIDE;
        if (kind == 2 && out(n, -255, 255)) return OUTSIDE;
        if (on) return STATE;
        if (pipe.size() == 4) return FULL;
        pipe.add(new Step(kind, n));
        return pipe.size();
    }

    int unpipe(int k) {
        if (k < 0 || k >= pipe.size()) return UNKNOWN;
        if (on) return STATE;
        pipe.remove(k);
        return pipe.size();
    }

    int piped(int v) {
        if (out(v, 0, 255)) return OUTSIDE;
        int value = v;
        for (Step step : pipe) value = step.of(value);
        return value;
    }

    int threshold(int v) {
        if (out(v, 0, 256)) return OUTSIDE;
        if (on) return STATE;
        int was = threshold;
        threshold = v;
        return was;
    }

    private int reach() {
        int r = 0;
        for (int lead : leads) r = Math.max(r, (int) Math.ceil(lead / 4.0));
        return r;
    }

    int begin(int n) {
        if (out(n, 1, 40)) return OUTSIDE;
        if (on) return STATE;
        on = true;
        size = n;
        reachOfScan = reach();
        last = n - 1 + reachOfScan;
        rows.clear();
        queue.clear();
        taken.clear();
        mode = Mode.REST;
        position = -4;
        next = 0;
        stops = 0;
        ticks = 0;
        return last + 1;
    }

    /** All values of all colours as the cells read them at a position. */
    private int[][] read(int at) {
        int[][] values = new int[3][12];
        for (int colour = 0; colour < 3; colour++) {
            int row = at;
            int quarter = 0;
            for (int i = 0; i < leads[colour]; i++) {
                quarter--;
                if (quarter < 0) {
                    quarter = 3;
                    row--;
                }
            }
            List<Integer> live = new ArrayList<>();
            for (int k = 0; k < 12; k++) {
                Cell c = cells[colour][k];
                if (!c.live()) continue;
                values[colour][k] = c.evens(c.reads(light(colour, k, row, quarter)));
                live.add(k);
            }
            for (int k = 0; k < 12; k++) {
                if (!live.contains(k)) values[colour][k] = bridge(values[colour], live, k);
            }
        }
        return values;
    }

    private static int bridge(int[] values, List<Integer> live, int k) {
        Integer l = null;
        Integer r = null;
        for (int column : live) {
            if (column < k) l = column;
            if (column > k && r == null) r = column;
        }
        if (l == null && r == null) return 0;
        if (l == null) return values[r];
        if (r == null) return values[l];
        return (int) nearest((long) values[l] * (r - k) + (long) values[r] * (k - l), r - l);
    }

    private int[][] together(int y, Map<Integer, int[][]> from) {
        int[][] line = new int[3][12];
        for (int colour = 0; colour < 3; colour++) {
            int at = y + leads[colour] / 4;
            int f = leads[colour] - leads[colour] / 4 * 4;
            for (int k = 0; k < 12; k++) {
                long v = from.get(at)[colour][k];
                if (f > 0) v = nearest(v * (4 - f) + (long) from.get(at + 1)[colour][k] * f, 4);
                line[colour][k] = piped((int) v);
            }
        }
        return line;
    }

    private boolean more() {
        return on && next <= last;
    }

    private int tick() {
        ticks++;
        int came = 0;
        Mode was = mode;
        if (mode == Mode.REST) {
            if (more() && queue.size() <= 2) mode = Mode.UP;
        } else if ((mode == Mode.UP || mode == Mode.READ) && !on) {
            position++;
            mode = Mode.OUT;
        } else if (mode == Mode.UP) {
            position++;
            if (position == next) mode = Mode.READ;
        } else if (mode == Mode.READ) {
            rows.put(position, read(position));
            int y = position - reachOfScan;
            if (y >= 0) {
                queue.add(new Line(y, together(y, rows)));
                came = 1;
            }
            position++;
            next++;
            if (!more() || queue.size() == 6) mode = Mode.OUT;
            if (more() && queue.size() == 6) stops++;
        } else if (mode == Mode.OUT) {
            position++;
            outs++;
            if (outs == 3) mode = Mode.BACK;
        } else {
            position--;
            if (position == next - 4) mode = Mode.REST;
        }
        if (was != Mode.OUT) outs = 0;
        return came;
    }

    int ticks(int n) {
        if (out(n, 0, 200)) return OUTSIDE;
        int came = 0;
        for (int i = 0; i < n; i++) came += tick();
        return came;
    }

    int take() {
        if (!on) return STATE;
        if (queue.isEmpty()) return NONE;
        Line line = queue.remove();
        taken.add(line);
        if (line.number() == size - 1) on = false;
        return line.number();
    }

    int stop() {
        if (!on) return STATE;
        on = false;
        queue.clear();
        return size - taken.size();
    }

    int head(int what) {
        if (out(what, 0, 7)) return OUTSIDE;
        return new int[] {position + 1000, mode.ordinal(), next, queue.size(), stops, ticks, on ? 1 : 0, reach()}[what];
    }

    int whole(int y, int colour, int k) {
        if (!colour(colour) || !column(k)) return UNKNOWN;
        if (out(y, 0, 39)) return OUTSIDE;
        Map<Integer, int[][]> all = new HashMap<>();
        for (int at = y; at <= y + 4; at++) all.put(at, read(at));
        return together(y, all)[colour][k];
    }

    // lines that were taken

    private boolean line(int y) {
        return 0 <= y && y < taken.size();
    }

    int pixel(int y, int colour, int k) {
        if (!line(y) || !colour(colour) || !column(k)) return UNKNOWN;
        return taken.get(y).values()[colour][k];
    }

    int grey(int y, int k) {
        if (!line(y) || !column(k)) return UNKNOWN;
        int[][] v = taken.get(y).values();
        return (int) nearest(2L * v[0][k] + 5L * v[1][k] + v[2][k], 8);
    }

    int dark(int y) {
        if (!line(y)) return UNKNOWN;
        int set = 0;
        for (int k = 0; k < 12; k++) set += grey(y, k) < threshold ? (int) Math.pow(2, k) : 0;
        return set;
    }

    /** First column and how many, of each run. */
    private List<int[]> runs(int y) {
        List<int[]> runs = new ArrayList<>();
        int[] open = null;
        for (int k = 0; k < 12; k++) {
            if (grey(y, k) >= threshold) {
                open = null;
                continue;
            }
            if (open == null) {
                open = new int[] {k, 0};
                runs.add(open);
            }
            open[1]++;
        }
        return runs;
    }

    int run(int y, int k, int what) {
        if (!line(y)) return UNKNOWN;
        List<int[]> runs = runs(y);
        if (k < 0 || k >= runs.size()) return UNKNOWN;
        return out(what, 0, 1) ? OUTSIDE : runs.get(k)[what];
    }

    int edge(int y) {
        if (!line(y)) return UNKNOWN;
        for (int k = 0; k < 12; k++) {
            if (grey(y, k) < threshold) return k;
        }
        return NONE;
    }

    long skew(int which) {
        if (out(which, 0, 1)) return LOST;
        List<long[]> points = new ArrayList<>();
        for (int y = 0; y < taken.size(); y++) {
            if (edge(y) != NONE) points.add(new long[] {y, edge(y)});
        }
        if (points.size() < 2) return LOST;
        long upper = 0;
        long lower = 0;
        for (long[] p : points) {
            for (long[] q : points) {
                upper += p[0] * p[1] - p[0] * q[1];
                lower += p[0] * p[0] - p[0] * q[0];
            }
        }
        long by = BigInteger.valueOf(upper).gcd(BigInteger.valueOf(lower)).longValueExact();
        return (which == 0 ? upper : lower) / by;
    }

    private boolean sticksOut(int y, int k, int way) {
        if (k < 1 || k > 10) return false;
        return way * (grey(y, k) - grey(y, k - 1)) >= 24 && way * (grey(y, k) - grey(y, k + 1)) >= 24;
    }

    int longest(int k) {
        if (!column(k)) return UNKNOWN;
        int most = 0;
        for (int way = -1; way <= 1; way += 2) {
            for (int y = 0; y < taken.size(); y++) {
                int n = 0;
                while (line(y + n) && sticksOut(y + n, k, way)) n++;
                most = Math.max(most, n);
            }
        }
        return most;
    }

    int streaks() {
        int set = 0;
        for (int k = 1; k <= 10; k++) set += longest(k) >= 4 ? (int) Math.pow(2, k) : 0;
        return set;
    }

    int many(int what) {
        if (out(what, 0, 5)) return OUTSIDE;
        int runs = 0;
        for (int y = 0; y < taken.size(); y++) runs += runs(y).size();
        return new int[] {patches.size(), pipe.size(), taken.size(), live(), size, runs}[what];
    }
}
