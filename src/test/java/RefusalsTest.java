import java.util.ArrayList;
import java.util.Arrays;
import java.util.List;
import java.util.TreeSet;

/**
 * Refusals of all calls, by a table of the document's ranges: in each scene every call is made with
 * the last numbers that are taken and the first that are not, on both sides, in every mixture, so
 * also with several reasons to refuse it at once: the one that the document tells first is answered,
 * and an object that refused a call answers whatever is asked then as one that was never asked.
 */
public final class RefusalsTest {
    private static final int UNKNOWN = -1, OUTSIDE = -2, STATE = -3, FULL = -4, NONE = -9, TAKEN = 0;
    private static final long LOST = Long.MIN_VALUE;
    private static final Due DUE = new Due("RefusalsTest");

    private interface Answer {
        long of(PageLines x, int[] a);
    }

    /** The numbers that an argument may be, and what is answered if it is another one. */
    private record Limit(int refusal, int least, int most) {
        boolean holds(int v) {
            return v >= least && v <= most;
        }
    }

    /** A call; 'else' is what refuses it if all its arguments are as told, or TAKEN. */
    private record Call(String name, Answer answer, int elseRefusal, Limit... limits) {
        long due(int[] a) {
            int first = elseRefusal == TAKEN ? Integer.MIN_VALUE : elseRefusal;
            for (int i = 0; i < a.length; i++) {
                // -1, -2, -3, -4: the greatest is the one that is told first
                if (!limits[i].holds(a[i])) first = Math.max(first, limits[i].refusal);
            }
            if (first == Integer.MIN_VALUE) return TAKEN;
            return name.contains("skew") ? LOST : first;
        }
    }

    public static void main(String[] args) {
        scenesAreAsTold();
        for (Scene scene : Scene.ALL) {
            long[] untouched = Scene.askAll(scene.make());
            for (Call call : cellsAndPage(scene)) allMixtures(scene, call, untouched);
            for (Call call : patches(scene)) allMixtures(scene, call, untouched);
            for (Call call : scans(scene)) allMixtures(scene, call, untouched);
            for (Call call : pipes(scene)) allMixtures(scene, call, untouched);
            for (Call call : lines(scene)) allMixtures(scene, call, untouched);
            allPatches(scene, untouched);
            allSteps(scene, untouched);
        }
        DUE.end();
    }

    private static void scenesAreAsTold() {
        for (Scene s : Scene.ALL) {
            PageLines x = s.make();
            int[] many = {s.patches(), s.steps(), s.taken(), s.isNew() ? 36 : 35, s.lines(), s.taken() * s.runs()};
            for (int i = 0; i < 6; i++) DUE.is(s.name() + ": many " + i, x.many(i), many[i]);
            DUE.is(s.name() + ": on", x.head(6), s.on() ? 1 : 0);
        }
        DUE.is("a full queue", Scene.ALL.get(4).make().head(3), 6);
    }

    private static Limit unknown(int least, int most) {
        return new Limit(UNKNOWN, least, most);
    }

    private static Limit outside(int least, int most) {
        return new Limit(OUTSIDE, least, most);
    }

    private static int ifOn(Scene s) {
        return s.on() ? STATE : TAKEN;
    }

    private static List<Call> cellsAndPage(Scene s) {
        Limit colour = unknown(0, 2), column = unknown(0, 11), top = outside(0, 255);
        int ifDead = s.isNew() ? TAKEN : STATE;
        return List.of(
            new Call("2 cell", (x, a) -> x.cell(a[0], a[1], a[2], a[3]), ifOn(s),
                colour, column, outside(0, 63), outside(0, 127)),
            new Call("3 strip", (x, a) -> x.strip(a[0]), ifOn(s), outside(0, 1)),
            new Call("4 ofCell", (x, a) -> x.ofCell(a[0], a[1], a[2]), TAKEN, colour, column, outside(0, 4)),
            new Call("5 reading", (x, a) -> x.reading(a[0], a[1], a[2]), TAKEN, colour, column, top),
            new Call("6 even", (x, a) -> x.even(a[0], a[1], a[2]), TAKEN, colour, column, top),
            new Call("6 even, not live", (x, a) -> x.even(Scene.DEAD_COLOUR, Scene.DEAD_COLUMN, a[0]), ifDead, top),
            new Call("7 ground", (x, a) -> x.ground(a[0]), ifOn(s), top),
            new Call("9 tint", (x, a) -> x.tint(a[0], a[1], a[2]), ifOn(s), unknown(0, s.patches() - 1), colour, top),
            new Call("10 blank", (x, a) -> x.blank(), ifOn(s)),
            new Call("11 speck", (x, a) -> x.speck(a[0], a[1]), ifOn(s), column, top),
            new Call("12 light", (x, a) -> x.light(a[0], a[1], a[2], a[3]), TAKEN,
                colour, column, outside(-1000, 1000), outside(0, 3)));
    }

    private static List<Call> patches(Scene s) {
        int refusal = s.on() ? STATE : s.patches() == 12 ? FULL : TAKEN;
        Limit rows = outside(0, 63), columns = outside(0, 11), slant = outside(-16, 16);
        return List.of(
            new Call("8 patch, from, left", (x, a) -> x.patch(a[0], 63, a[1], 11, a[2]), refusal, rows, columns, slant),
            new Call("8 patch, to, right", (x, a) -> x.patch(0, a[0], 0, a[1], a[2]), refusal, rows, columns, slant),
            new Call("8 patch, to 30", (x, a) -> x.patch(a[0], 30, 0, 0, 0), refusal, outside(0, 30)),
            new Call("8 patch, from 30", (x, a) -> x.patch(30, a[0], 0, 0, 0), refusal, outside(30, 63)),
            new Call("8 patch, right 5", (x, a) -> x.patch(0, 0, a[0], 5, 0), refusal, outside(0, 5)),
            new Call("8 patch, left 5", (x, a) -> x.patch(0, 0, 5, a[0], 0), refusal, outside(5, 11)),
            new Call("8 patch, both rows alike", (x, a) -> x.patch(a[0], a[0], 0, 0, 0), refusal, rows),
            new Call("8 patch, both columns alike", (x, a) -> x.patch(0, 0, a[0], a[0], 0), refusal, columns));
    }

    private static List<Call> scans(Scene s) {
        int ifOff = s.on() ? TAKEN : STATE;
        return List.of(
            new Call("13 lead", (x, a) -> x.lead(a[0], a[1]), ifOn(s), unknown(1, 2), outside(0, 15)),
            new Call("17 threshold", (x, a) -> x.threshold(a[0]), ifOn(s), outside(0, 256)),
            new Call("18 begin", (x, a) -> x.begin(a[0]), ifOn(s), outside(1, 40)),
            new Call("19 ticks", (x, a) -> x.ticks(a[0]), TAKEN, outside(0, 200)),
            new Call("20 take", (x, a) -> x.take(), ifOff),
            new Call("21 stop", (x, a) -> x.stop(), ifOff),
            new Call("22 head", (x, a) -> x.head(a[0]), TAKEN, outside(0, 7)),
            new Call("23 whole", (x, a) -> x.whole(a[0], a[1], a[2]), TAKEN,
                outside(0, 39), unknown(0, 2), unknown(0, 11)));
    }

    private static List<Call> pipes(Scene s) {
        int refusal = s.on() ? STATE : s.steps() == 4 ? FULL : TAKEN;
        Limit any = outside(Integer.MIN_VALUE, Integer.MAX_VALUE);
        return List.of(
            new Call("14 pipe, kind", (x, a) -> x.pipe(a[0], 255), refusal, outside(0, 3)),
            new Call("14 pipe NEGATIVE", (x, a) -> x.pipe(0, a[0]), refusal, any),
            new Call("14 pipe TIMES", (x, a) -> x.pipe(1, a[0]), refusal, outside(0, 255)),
            new Call("14 pipe MORE", (x, a) -> x.pipe(2, a[0]), refusal, outside(-255, 255)),
            new Call("14 pipe CUT", (x, a) -> x.pipe(3, a[0]), refusal, outside(0, 255)),
            new Call("15 unpipe", (x, a) -> x.unpipe(a[0]), ifOn(s), unknown(0, s.steps() - 1)),
            new Call("16 piped", (x, a) -> x.piped(a[0]), TAKEN, outside(0, 255)));
    }

    private static List<Call> lines(Scene s) {
        Limit line = unknown(0, s.taken() - 1), colour = unknown(0, 2), column = unknown(0, 11);
        return List.of(
            new Call("24 pixel", (x, a) -> x.pixel(a[0], a[1], a[2]), TAKEN, line, colour, column),
            new Call("25 grey", (x, a) -> x.grey(a[0], a[1]), TAKEN, line, column),
            new Call("26 dark", (x, a) -> x.dark(a[0]), TAKEN, line),
            new Call("27 run", (x, a) -> x.run(a[0], a[1], a[2]), TAKEN, line, unknown(0, s.runs() - 1), outside(0, 1)),
            new Call("28 edge", (x, a) -> x.edge(a[0]), TAKEN, line),
            new Call("29 skew", (x, a) -> x.skew(a[0]), s.edges() < 2 ? STATE : TAKEN, outside(0, 1)),
            new Call("30 longest", (x, a) -> x.longest(a[0]), TAKEN, column),
            new Call("31 streaks", (x, a) -> x.streaks(), TAKEN),
            new Call("32 many", (x, a) -> x.many(a[0]), TAKEN, outside(0, 5)));
    }

    /** All five arguments at once; rows and columns also in the wrong order. */
    private static void allPatches(Scene s, long[] untouched) {
        int elseRefusal = s.on() ? STATE : s.patches() == 12 ? FULL : TAKEN;
        int[] rows = {-1, 0, 63, 64}, columns = {-1, 0, 11, 12}, slants = {-17, -16, 16, 17};
        for (int i = 0; i < 1024; i++) {
            int[] a = {rows[i & 3], rows[i >> 2 & 3], columns[i >> 4 & 3], columns[i >> 6 & 3], slants[i >> 8]};
            boolean rowsAreRight = 0 <= a[0] && a[0] <= a[1] && a[1] <= 63;
            boolean columnsAreRight = 0 <= a[2] && a[2] <= a[3] && a[3] <= 11;
            boolean right = rowsAreRight && columnsAreRight && Math.abs(a[4]) <= 16;
            PageLines x = s.make();
            long got = x.patch(a[0], a[1], a[2], a[3], a[4]);
            judge(s.name() + ": 8 patch" + Arrays.toString(a), x, got, right ? elseRefusal : OUTSIDE, untouched);
        }
    }

    private static void allSteps(Scene s, long[] untouched) {
        int elseRefusal = s.on() ? STATE : s.steps() == 4 ? FULL : TAKEN;
        for (int kind = -1; kind <= 4; kind++) {
            for (int n : new int[] {-256, -255, -1, 0, 255, 256}) {
                boolean right = kind == 0
                    || kind == 2 && n != -256 && n != 256
                    || (kind == 1 || kind == 3) && (n == 0 || n == 255);
                PageLines x = s.make();
                long got = x.pipe(kind, n);
                judge(s.name() + ": 14 pipe " + kind + " " + n, x, got, right ? elseRefusal : OUTSIDE, untouched);
            }
        }
    }

    private static int[] boundaries(Limit limit) {
        TreeSet<Integer> numbers = new TreeSet<>(List.of(limit.least, limit.most));
        if (limit.least > Integer.MIN_VALUE) numbers.add(limit.least - 1);
        if (limit.most < Integer.MAX_VALUE) numbers.add(limit.most + 1);
        numbers.addAll(List.of(Integer.MIN_VALUE, Integer.MAX_VALUE));
        return numbers.stream().mapToInt(Integer::intValue).toArray();
    }

    private static void allMixtures(Scene scene, Call call, long[] untouched) {
        List<int[]> mixtures = new ArrayList<>();
        mixtures.add(new int[0]);
        for (Limit limit : call.limits) {
            List<int[]> longer = new ArrayList<>();
            for (int[] ahead : mixtures) {
                for (int v : boundaries(limit)) {
                    int[] more = Arrays.copyOf(ahead, ahead.length + 1);
                    more[ahead.length] = v;
                    longer.add(more);
                }
            }
            mixtures = longer;
        }
        for (int[] a : mixtures) oneMixture(scene, call, a, untouched);
    }

    private static void oneMixture(Scene scene, Call call, int[] a, long[] untouched) {
        PageLines x = scene.make();
        long got = call.answer.of(x, a);
        judge(scene.name() + ": " + call.name + Arrays.toString(a), x, got, call.due(a), untouched);
    }

    private static void judge(String what, PageLines x, long got, long due, long[] untouched) {
        if (due == TAKEN) {
            DUE.holds(what + " is taken, not " + got, got >= 0 || got == NONE);
            return;
        }
        DUE.is(what, got, due);
        DUE.holds(what + " changes nothing", Arrays.equals(Scene.askAll(x), untouched));
    }
}
