import java.util.Random;

/** Runs of calls, drawn with a fixed seed, on the class and on the model: they answer alike. */
public final class ModelTest {
    private static final int RUNS = 2500, CALLS = 512;
    private static final int[] CORNERS = {Integer.MIN_VALUE, -1001, -256, -17, -16, -1, 0, 1, 255, 256, 1001, Integer.MAX_VALUE};

    private final Random random;
    private final Due due;
    private PageLines x;
    private Model m;
    private String before = "";

    private ModelTest(long seed, Due due) {
        this.random = new Random(seed);
        this.due = due;
    }

    public static void main(String[] args) {
        Due due = new Due("ModelTest");
        ModelTest test = new ModelTest(20261117L, due);
        for (int i = 0; i < RUNS; i++) test.oneRun(i);
        due.end();
    }

    /** A number in the range, often at its ends, seldom outside. */
    private int in(int least, int most) {
        int dice = random.nextInt(40);
        if (dice == 0) return CORNERS[random.nextInt(CORNERS.length)];
        if (dice == 1) return random.nextBoolean() ? least - 1 : most + 1;
        if (dice < 6) return least;
        if (dice < 10) return most;
        return least + random.nextInt(most - least + 1);
    }

    private int colour() {
        return in(0, 2);
    }

    private int column() {
        return in(0, 11);
    }

    private void same(String call, long got, long want) {
        due.is(before + call, got, want);
    }

    private void oneRun(int number) {
        x = new PageLines();
        m = new Model();
        int kind = random.nextInt(4);
        for (int i = 0; i < CALLS; i++) {
            before = "run " + number + ", call " + i + ": ";
            int dice = random.nextInt(100);
            if (i < 60) setUp(dice);
            else if (dice < 45) scans(kind);
            else if (dice < 85) asks(random.nextInt(14));
            else if (dice < 90) setUp(random.nextInt(100));
            else looks(random.nextInt(8));
        }
    }

    private void setUp(int dice) {
        if (dice < 14) {
            int c = colour(), k = column(), o = in(0, 63), g = random.nextInt(3) == 0 ? in(0, 5) : in(0, 127);
            same("cell", x.cell(c, k, o, g), m.cell(c, k, o, g));
        } else if (dice < 20) {
            int w = in(0, 1);
            same("strip", x.strip(w), m.strip(w));
        } else if (dice < 24) {
            int v = in(0, 255);
            same("ground", x.ground(v), m.ground(v));
        } else if (dice < 40) {
            int f = random.nextInt(20), t = f + in(0, 20), l = random.nextInt(12), r = l + random.nextInt(5), s = in(-16, 16);
            if (random.nextInt(8) == 0) f = in(0, 63);
            if (random.nextInt(8) == 0) t = in(0, 63);
            if (random.nextInt(8) == 0) l = column();
            same("patch", x.patch(f, t, l, r, s), m.patch(f, t, l, r, s));
        } else if (dice < 65) {
            int p = in(0, Math.max(1, m.many(0))), c = colour(), v = in(0, 255);
            same("tint", x.tint(p, c, v), m.tint(p, c, v));
        } else if (dice < 66) {
            same("blank", x.blank(), m.blank());
        } else if (dice < 72) {
            int k = column(), v = random.nextBoolean() ? in(0, 60) : in(0, 255);
            same("speck", x.speck(k, v), m.speck(k, v));
        } else if (dice < 82) {
            int c = colour(), q = in(0, 15);
            same("lead", x.lead(c, q), m.lead(c, q));
        } else if (dice < 88) {
            int kind = in(0, 3), n = random.nextBoolean() ? in(-255, 255) : in(8, 24);
            if (kind == 3 && random.nextInt(3) > 0) kind = 0;
            same("pipe", x.pipe(kind, n), m.pipe(kind, n));
        } else if (dice < 94) {
            int k = in(0, 3);
            same("unpipe", x.unpipe(k), m.unpipe(k));
        } else {
            int v = in(0, 256);
            same("threshold", x.threshold(v), m.threshold(v));
        }
    }

    private void scans(int kind) {
        int dice = random.nextInt(100);
        if (m.head(6) == 0 && dice < 60) {
            int n = kind == 0 ? in(1, 5) : in(1, 40);
            same("begin", x.begin(n), m.begin(n));
        } else if (dice < (kind == 1 ? 70 : 40)) {
            int n = kind == 1 ? in(0, 9) : random.nextInt(4) == 0 ? in(0, 200) : in(0, 30);
            same("ticks", x.ticks(n), m.ticks(n));
        } else if (dice < 98) {
            same("take", x.take(), m.take());
        } else if (kind != 2) {
            same("stop", x.stop(), m.stop());
        } else {
            int n = in(1, 40);
            same("begin", x.begin(n), m.begin(n));
        }
    }

    private int takenLine() {
        return in(0, Math.max(0, m.many(2) - 1));
    }

    private void asks(int which) {
        int y = takenLine(), c = colour(), k = column();
        switch (which) {
            case 0, 1 -> {
                int w = in(0, 7);
                same("head", x.head(w), m.head(w));
            }
            case 2 -> {
                int line = in(0, 39);
                same("whole", x.whole(line, c, k), m.whole(line, c, k));
            }
            case 3 -> same("pixel", x.pixel(y, c, k), m.pixel(y, c, k));
            case 4 -> same("grey", x.grey(y, k), m.grey(y, k));
            case 5 -> same("dark", x.dark(y), m.dark(y));
            case 6, 7 -> {
                int r = random.nextInt(4) == 0 ? in(0, 5) : in(0, 1), w = in(0, 1);
                same("run", x.run(y, r, w), m.run(y, r, w));
            }
            case 8 -> same("edge", x.edge(y), m.edge(y));
            case 9, 10 -> {
                int w = in(0, 1);
                same("skew", x.skew(w), m.skew(w));
            }
            case 11 -> same("longest", x.longest(k), m.longest(k));
            case 12 -> same("streaks", x.streaks(), m.streaks());
            default -> {
                int w = in(0, 5);
                same("many", x.many(w), m.many(w));
            }
        }
    }

    private void looks(int which) {
        int c = colour(), k = column();
        if (which < 2) {
            int w = in(0, 4);
            same("ofCell", x.ofCell(c, k, w), m.ofCell(c, k, w));
        } else if (which < 4) {
            int v = in(0, 255);
            same("reading", x.reading(c, k, v), m.reading(c, k, v));
        } else if (which < 5) {
            int v = in(0, 255);
            same("even", x.even(c, k, v), m.even(c, k, v));
        } else if (which < 7) {
            int r = random.nextInt(6) == 0 ? in(-1000, 1000) : in(-3, 40), q = in(0, 3);
            same("light", x.light(c, k, r, q), m.light(c, k, r, q));
        } else {
            int v = in(0, 255);
            same("piped", x.piped(v), m.piped(v));
        }
    }
}
