import java.math.BigInteger;
import java.util.ArrayList;
import java.util.Arrays;
import java.util.Collections;
import java.util.List;
import java.util.Random;

/** Long random runs of all calls against a plain model of the document. */
public final class ModelTest {
    private static final int RUNS = 200;
    // The document frees what comes after 512 calls; one round of this test may make some hundred of them.
    private static final int CALLS = 400;
    private static final int FULL_BOARDS = 400;

    private static int wrong = 0;

    /** The document's words in their plainest form; slow, and with whole traces kept at each place. */
    private static final class Model {
        int[][][] echo = new int[4][24][32];
        int strength = 3;
        int many = 20;
        int shift = 2;
        int[][] value = new int[24][31];
        int[][] letter = new int[24][31];
        List<int[]> stations = new ArrayList<>();

        Model() {
            for (int[] row : value) {
                Arrays.fill(row, -1);
            }
        }

        Model copy() {
            Model other = new Model();
            for (int b = 0; b < 4; b++) {
                for (int t = 0; t < 24; t++) {
                    other.echo[b][t] = echo[b][t].clone();
                }
            }
            other.strength = strength;
            other.many = many;
            other.shift = shift;
            for (int h = 0; h < 24; h++) {
                other.value[h] = value[h].clone();
                other.letter[h] = letter[h].clone();
            }
            for (int[] s : stations) {
                other.stations.add(s.clone());
            }
            return other;
        }

        boolean barred(int b, int t) {
            int noisy = 0;
            for (int e : echo[b][t]) {
                if (e >= strength) {
                    noisy++;
                }
            }
            return noisy >= many;
        }

        int worth(int b, int t, int h) {
            int sum = barred(b, t) ? 0 : echo[b][t][h];
            if (t + shift <= 23 && !barred(b, t + shift)) {
                sum += echo[b][t + shift][h];
            }
            return sum;
        }

        /** {worth, first, last, letter, heights ..}, or null. */
        int[] trace(int b) {
            int[][] worth = new int[24][32];
            boolean[] barred = new boolean[24];
            for (int t = 0; t < 24; t++) {
                barred[t] = barred(b, t);
                for (int h = 0; h < 32; h++) {
                    worth[t][h] = worth(b, t, h);
                }
            }
            int best = 0;
            int[] found = null;
            for (int first = 0; first < 24; first++) {
                if (barred[first]) {
                    continue;
                }
                int[] sums = worth[first].clone();
                int[][] paths = new int[32][];
                for (int h = 0; h < 32; h++) {
                    sums[h]--;
                    paths[h] = new int[] {h};
                }
                for (int last = first; last < 24; last++) {
                    if (last > first) {
                        int[] nextSums = new int[32];
                        int[][] nextPaths = new int[32][];
                        extend(worth[last], sums, paths, nextSums, nextPaths);
                        sums = nextSums;
                        paths = nextPaths;
                    }
                    if (barred[last]) {
                        continue;
                    }
                    int[] chosen = null;
                    for (int h = 0; h < 32; h++) {
                        boolean lower = chosen != null && sums[h] == best
                                && Arrays.compare(paths[h], chosen) < 0;
                        if (sums[h] > best || lower) {
                            best = sums[h];
                            chosen = paths[h];
                        }
                    }
                    if (chosen != null) {
                        found = new int[4 + chosen.length];
                        found[0] = best;
                        found[1] = first;
                        found[2] = last;
                        found[3] = last == 23 || barred[last + 1] ? 1 : 0;
                        System.arraycopy(chosen, 0, found, 4, chosen.length);
                    }
                }
            }
            return found;
        }

        private static void extend(int[] worth, int[] sums, int[][] paths, int[] nextSums, int[][] nextPaths) {
            for (int h = 0; h < 32; h++) {
                int from = -1;
                int sum = 0;
                for (int g = 0; g < 32; g++) {
                    if (Math.abs(g - h) > 3) {
                        continue;
                    }
                    int one = sums[g] + worth[h] - 1 - Math.abs(g - h);
                    if (from < 0 || one > sum || (one == sum && Arrays.compare(paths[g], paths[from]) < 0)) {
                        from = g;
                        sum = one;
                    }
                }
                nextSums[h] = sum;
                nextPaths[h] = Arrays.copyOf(paths[from], paths[from].length + 1);
                nextPaths[h][paths[from].length] = h;
            }
        }

        static long[] steps(int[] trace) {
            int n = trace.length - 4;
            long[] steps = new long[n];
            for (int i = 0; i < n; i++) {
                long v = 100000L * (trace[4 + i] + 1);
                for (int j = 0; j < i; j++) {
                    v -= (100 + 100 * j / (i + 1)) * steps[j];
                }
                steps[i] = v / (100 + 100 * i / (i + 1));
                if (steps[i] <= 0) {
                    return Arrays.copyOf(steps, i);
                }
            }
            return steps;
        }

        int middle(int hour, int what) {
            List<Integer> all = new ArrayList<>();
            for (int d = 0; d < 31; d++) {
                if (value[hour][d] >= 0) {
                    int l = letter[hour][d];
                    all.add(what == 0 && l == 2 ? -1 : what == 1 && l == 1 ? 1000 : value[hour][d]);
                }
            }
            Collections.sort(all);
            return what == 2 ? all.size() : all.isEmpty() ? -2 : all.get((all.size() - 1) / 2);
        }

        int map(int x, int y) {
            BigInteger top = BigInteger.ZERO;
            BigInteger bottom = BigInteger.ZERO;
            BigInteger all = BigInteger.ONE;
            for (int[] s : stations) {
                int d = (s[0] - x) * (s[0] - x) + (s[1] - y) * (s[1] - y);
                if (d == 0) {
                    return s[2];
                }
                all = all.multiply(BigInteger.valueOf(d));
            }
            for (int[] s : stations) {
                int d = (s[0] - x) * (s[0] - x) + (s[1] - y) * (s[1] - y);
                BigInteger weight = all.divide(BigInteger.valueOf(d));
                top = top.add(weight.multiply(BigInteger.valueOf(s[2])));
                bottom = bottom.add(weight);
            }
            return stations.isEmpty() ? -1 : top.divide(bottom).intValueExact();
        }
    }

    private static boolean in(int n, int low, int high) {
        return n >= low && n <= high;
    }

    private static boolean board(Model m, int b, int t, int part, int eight) {
        String text = String.format("%08x", eight);
        if (!in(b, 0, 3) || !in(t, 0, 23) || !in(part, 0, 3) || !text.matches("[0-9]{8}")) {
            return false;
        }
        for (int i = 0; i < 8; i++) {
            m.echo[b][t][8 * part + i] = text.charAt(i) - '0';
        }
        return true;
    }

    private static int tell(Model m, int b, int t, int h, int what) {
        if (!in(b, 0, 3) || !in(t, 0, 23) || !in(h, 0, 31) || !in(what, 0, 2)) {
            return -1;
        }
        return what == 0 ? m.echo[b][t][h] : what == 1 ? m.worth(b, t, h) : m.barred(b, t) ? 1 : 0;
    }

    private static int place(int[] trace, int i, int what) {
        long[] steps = trace == null ? new long[0] : Model.steps(trace);
        if (!in(i, 0, steps.length - 1) || !in(what, 0, 2)) {
            return -1;
        }
        long sum = 0;
        long again = 0;
        for (int j = 0; j <= i; j++) {
            sum += steps[j];
            again += (100 + 100 * j / (i + 1)) * steps[j];
        }
        long made = again / 100000 - 1;
        if (made != trace[4 + i] && made != trace[4 + i] - 1) {
            wrong++;
            System.out.println("the model itself made a height again wrongly");
        }
        return (int) (what == 0 ? steps[i] : what == 1 ? sum : made);
    }

    private static int hops(int d, int h, int c, int n) {
        if (!in(d, 1, 20000) || !in(h, 1, 1000) || !in(c, 1, 1000) || !in(n, 1, 5)) {
            return -1;
        }
        BigInteger k = BigInteger.valueOf(4L * n * n * h * h);
        BigInteger right = BigInteger.valueOf((long) c * c)
                .multiply(BigInteger.valueOf((long) d * d).add(k));
        long low = 0;
        long high = 100000000L;
        while (high - low > 1) {
            long mid = (low + high) / 2;
            boolean fits = BigInteger.valueOf(mid).pow(2).multiply(k).compareTo(right) <= 0;
            low = fits ? mid : low;
            high = fits ? high : mid;
        }
        return (int) low;
    }

    private static int count(Model m, int what) {
        int present = 0;
        int lettered = 0;
        for (int h = 0; h < 24; h++) {
            for (int d = 0; d < 31; d++) {
                present += m.value[h][d] >= 0 ? 1 : 0;
                lettered += m.value[h][d] >= 0 && m.letter[h][d] > 0 ? 1 : 0;
            }
        }
        int[] first = {m.stations.size(), m.strength, m.many, m.shift, present, lettered};
        if (in(what, 0, 5)) {
            return first[what];
        }
        int barred = 0;
        for (int t = 0; in(what, 10, 13) && t < 24; t++) {
            barred += m.barred(what - 10, t) ? 1 : 0;
        }
        return in(what, 10, 13) ? barred : -1;
    }

    private final Random random;
    private final SkyEcho sky = new SkyEcho();
    private Model model = new Model();
    private final Model[] images = new Model[3];
    private final int run;
    private final int topEcho;
    private final int focus;
    private int calls = 0;

    private ModelTest(int run, Random random) {
        this.run = run;
        this.random = random;
        topEcho = 1 + random.nextInt(9);
        focus = random.nextInt(24);
    }

    private void due(String call, int got, int want) {
        calls++;
        if (got != want) {
            wrong++;
            System.out.println("run " + run + ": " + call + " answered " + got + ", due is " + want);
        }
    }

    private void due(String call, boolean got, boolean want) {
        due(call, got ? 1 : 0, want ? 1 : 0);
    }

    /** Mostly low .. high, and now and then something outside or at an edge. */
    private int some(int low, int high) {
        int kind = random.nextInt(60);
        int[] odd = {low - 1, high + 1, low, high, Integer.MIN_VALUE, Integer.MAX_VALUE};
        return kind < odd.length ? odd[kind] : low + random.nextInt(high - low + 1);
    }

    /** Mostly the same one, so that what was found of it before is asked for again after a change. */
    private int oneBoard() {
        return random.nextInt(3) == 0 ? some(0, 3) : 1;
    }

    private int tone() {
        return random.nextInt(3) == 0 ? some(0, 23) : Math.min(23, focus + random.nextInt(6));
    }

    private int eight() {
        int eight = 0;
        for (int i = 0; i < 8; i++) {
            int half = random.nextInt(400) == 0 ? 10 + random.nextInt(6) : random.nextInt(topEcho + 1);
            eight = eight << 4 | (random.nextInt(3) == 0 ? 0 : half);
        }
        return eight;
    }

    private void call() {
        int kind = random.nextInt(34);
        if (kind < 10) {
            tellBoards(kind);
        } else if (kind < 17) {
            askTraces(kind);
        } else if (kind < 25) {
            useTable(kind);
        } else {
            useRest(kind);
        }
    }

    private void tellBoards(int kind) {
        int b = oneBoard();
        int t = tone();
        int h = some(0, 31);
        if (kind < 4) {
            int part = some(0, 3);
            int eight = eight();
            due("board", sky.board(b, t, part, eight), board(model, b, t, part, eight));
        } else if (kind < 7) {
            int e = some(0, 9);
            boolean fits = in(b, 0, 3) && in(t, 0, 23) && in(h, 0, 31) && in(e, 0, 9);
            due("echo", sky.echo(b, t, h, e), fits);
            if (fits) {
                model.echo[b][t][h] = e;
            }
        } else if (kind == 7 && random.nextInt(4) == 0) {
            due("blank", sky.blank(b), in(b, 0, 3));
            if (in(b, 0, 3)) {
                model.echo[b] = new int[24][32];
            }
        } else if (kind == 8) {
            int s = random.nextBoolean() ? some(1, 9) : Math.min(9, 1 + random.nextInt(topEcho));
            int many = random.nextInt(3) == 0 ? some(1, 32) : some(3, 16);
            boolean fits = in(s, 1, 9) && in(many, 1, 32);
            due("noise", sky.noise(s, many), fits);
            model.strength = fits ? s : model.strength;
            model.many = fits ? many : model.many;
        } else {
            int s = some(1, 8);
            due("shift", sky.shift(s), in(s, 1, 8));
            model.shift = in(s, 1, 8) ? s : model.shift;
        }
    }

    private void askTraces(int kind) {
        int b = oneBoard();
        int t = tone();
        int what = some(0, 3);
        if (kind == 10) {
            int h = some(0, 31);
            due("tell", sky.tell(b, t, h, what), tell(model, b, t, h, what));
            return;
        }
        int[] trace = in(b, 0, 3) ? model.trace(b) : null;
        if (kind == 11) {
            due("trace", sky.trace(b, what), trace == null || !in(what, 0, 3) ? -1 : trace[what]);
        } else if (kind == 12) {
            boolean there = trace != null && t >= trace[1] && t <= trace[2];
            due("height", sky.height(b, t), there ? trace[4 + t - trace[1]] : -1);
        } else if (kind == 13) {
            due("undone", sky.undone(b), trace == null ? -1 : Model.steps(trace).length);
        } else if (kind == 14) {
            int i = some(0, 5);
            due("place", sky.place(b, i, what), place(trace, i, what));
        } else if (kind == 15) {
            scale(b, trace);
        } else {
            wholeTrace(b, trace);
        }
    }

    private void scale(int b, int[] trace) {
        int hour = some(0, 23);
        int day = some(0, 30);
        boolean fits = in(b, 0, 3) && in(hour, 0, 23) && in(day, 0, 30);
        due("scale", sky.scale(b, hour, day), fits);
        if (fits) {
            model.value[hour][day] = trace == null ? -1 : 10 * trace[2];
            model.letter[hour][day] = trace == null ? 0 : trace[3];
        }
    }

    private void wholeTrace(int b, int[] trace) {
        for (int w = 0; w < 4; w++) {
            due("trace " + w, sky.trace(b, w), trace == null ? -1 : trace[w]);
        }
        for (int t = 0; t < 24; t++) {
            boolean there = trace != null && t >= trace[1] && t <= trace[2];
            due("height " + t, sky.height(b, t), there ? trace[4 + t - trace[1]] : -1);
            for (int w = 0; w < 3; w++) {
                due("place " + t + " " + w, sky.place(b, t, w), place(trace, t, w));
            }
        }
    }

    private void useTable(int kind) {
        int hour = random.nextInt(3) == 0 ? some(0, 23) : 5;
        int day = some(0, 30);
        boolean there = in(hour, 0, 23) && in(day, 0, 30);
        if (kind < 21) {
            int value = random.nextBoolean() ? some(0, 999) : some(0, 9);
            int letter = some(0, 2);
            boolean fits = there && in(value, 0, 999) && in(letter, 0, 2);
            due("value", sky.value(hour, day, value, letter), fits);
            if (fits) {
                model.value[hour][day] = value;
                model.letter[hour][day] = letter;
            }
        } else if (kind == 21) {
            due("miss", sky.miss(hour, day), there);
            if (there) {
                model.value[hour][day] = -1;
            }
        } else if (kind == 22) {
            int what = some(0, 1);
            boolean known = there && model.value[hour][day] >= 0 && in(what, 0, 1);
            int want = !known ? -1 : what == 0 ? model.value[hour][day] : model.letter[hour][day];
            due("table", sky.table(hour, day, what), want);
        } else {
            int what = some(0, 2);
            boolean fits = in(hour, 0, 23) && in(what, 0, 2);
            due("middle", sky.middle(hour, what), fits ? model.middle(hour, what) : -2);
        }
    }

    private void useRest(int kind) {
        int x = random.nextBoolean() ? some(0, 200) : some(0, 2);
        int y = random.nextBoolean() ? some(0, 200) : some(0, 2);
        if (kind == 25) {
            int d = some(1, 20000);
            int h = random.nextBoolean() ? some(1, 1000) : some(1, 3);
            int c = some(1, 1000);
            int n = some(1, 5);
            due("hops", sky.hops(d, h, c, n), hops(d, h, c, n));
        } else if (kind == 26) {
            int d = some(1, 20000);
            int length = some(1, 20000);
            int want = -1;
            for (int n = 5; n >= 1 && in(d, 1, 20000) && in(length, 1, 20000); n--) {
                want = d <= n * length ? n : want;
            }
            due("fewest", sky.fewest(d, length), want);
        } else if (kind == 27) {
            station(x, y);
        } else if (kind == 28) {
            int s = some(0, 3);
            int value = some(0, 999);
            boolean fits = in(s, 0, model.stations.size() - 1) && in(value, 0, 999);
            due("tellStation", sky.tellStation(s, value), fits);
            if (fits) {
                model.stations.get(s)[2] = value;
            }
        } else if (kind == 29) {
            boolean fits = in(x, 0, 200) && in(y, 0, 200);
            due("map", sky.map(x, y), fits ? model.map(x, y) : -1);
        } else if (kind == 30) {
            int what = some(-1, 14);
            due("count", sky.count(what), count(model, what));
        } else {
            imageOrAgain();
        }
    }

    private void station(int x, int y) {
        int value = some(0, 999);
        boolean fits = in(x, 0, 200) && in(y, 0, 200) && in(value, 0, 999) && model.stations.size() < 4;
        for (int[] s : model.stations) {
            fits = fits && (s[0] != x || s[1] != y);
        }
        due("station", sky.station(x, y, value), fits ? model.stations.size() : -1);
        if (fits) {
            model.stations.add(new int[] {x, y, value});
        }
    }

    private void imageOrAgain() {
        int k = some(0, 2);
        if (random.nextBoolean()) {
            due("image", sky.image(k), in(k, 0, 2));
            if (in(k, 0, 2)) {
                images[k] = model.copy();
            }
        } else {
            boolean there = in(k, 0, 2) && images[k] != null;
            due("again", sky.again(k), there);
            model = there ? images[k].copy() : model;
        }
    }

    /** Echoes at all tones along a way, or all over the board, since the runs above tell few tones at once. */
    private void fullBoard() {
        int b = random.nextInt(4);
        int spread = random.nextBoolean() ? 31 : random.nextInt(6);
        int height = random.nextInt(32);
        for (int t = 0; t < 24; t++) {
            height = Math.max(0, Math.min(31, height + random.nextInt(7) - 3));
            for (int part = 0; part < 4; part++) {
                int eight = 0;
                for (int h = 8 * part; h < 8 * part + 8; h++) {
                    boolean silent = Math.abs(h - height) > spread || random.nextInt(4) == 0;
                    eight = eight << 4 | (silent ? 0 : random.nextInt(topEcho + 1));
                }
                due("board", sky.board(b, t, part, eight), board(model, b, t, part, eight));
            }
        }
        model.strength = 1 + random.nextInt(9);
        model.many = 1 + random.nextInt(32);
        model.shift = 1 + random.nextInt(8);
        due("noise", sky.noise(model.strength, model.many), true);
        due("shift", sky.shift(model.shift), true);
        wholeTrace(b, model.trace(b));
    }

    public static void main(String[] args) {
        for (int run = 0; run < RUNS; run++) {
            ModelTest test = new ModelTest(run, new Random(run));
            for (int i = 0; test.calls < CALLS && i < 2 * CALLS && wrong < 50; i++) {
                test.call();
            }
        }
        for (int run = RUNS; run < RUNS + FULL_BOARDS && wrong < 50; run++) {
            new ModelTest(run, new Random(run)).fullBoard();
        }
        System.out.println(wrong == 0 ? "all runs are as the model" : wrong + " answers are not as due");
        if (wrong != 0) {
            System.exit(1);
        }
    }
}
