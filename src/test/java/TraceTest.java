import java.util.Arrays;
import java.util.Random;

/** THE TRACE against a search through all traces of boards whose echoes are at the first tones alone. */
public final class TraceTest {
    private static final int SMALL = 5;
    private static final int ROUNDS = 600;

    private static int wrong = 0;

    private static final class Search {
        final int[][] echo = new int[24][32];
        int strength = 3;
        int many = 20;
        int shift = 2;
        final int[] path = new int[24];
        int worth = 0;
        int[] best = null;
        int first = -1;

        boolean barred(int tone) {
            int noisy = 0;
            for (int e : echo[tone]) {
                noisy += e >= strength ? 1 : 0;
            }
            return noisy >= many;
        }

        int placeWorth(boolean[] barred, int tone, int height) {
            int own = barred[tone] ? 0 : echo[tone][height];
            int on = tone + shift;
            return own + (on > 23 || barred[on] ? 0 : echo[on][height]);
        }

        void all() {
            boolean[] barred = new boolean[24];
            for (int t = 0; t < 24; t++) {
                barred[t] = barred(t);
            }
            // In the order of the tie rule, so that only a greater worth takes the place of an earlier one.
            for (int a = 0; a < SMALL; a++) {
                for (int b = a; b < SMALL; b++) {
                    if (!barred[a] && !barred[b]) {
                        for (int h = 0; h < 32; h++) {
                            walk(barred, a, b, a, h, 0);
                        }
                    }
                }
            }
        }

        void walk(boolean[] barred, int a, int b, int tone, int height, int before) {
            path[tone] = height;
            int sum = before + placeWorth(barred, tone, height) - 1;
            if (tone == b) {
                if (sum > worth) {
                    worth = sum;
                    first = a;
                    best = Arrays.copyOfRange(path, a, b + 1);
                }
                return;
            }
            for (int h = Math.max(0, height - 3); h <= Math.min(31, height + 3); h++) {
                walk(barred, a, b, tone + 1, h, sum - Math.abs(h - height));
            }
        }
    }

    private static void due(int round, String what, int got, int want) {
        if (got != want) {
            wrong++;
            System.out.println("round " + round + ": " + what + " answered " + got + ", due is " + want);
        }
    }

    private static void round(int round, Random random) {
        SkyEcho sky = new SkyEcho();
        Search search = new Search();
        search.shift = 1 + random.nextInt(4);
        search.strength = 2 + random.nextInt(4);
        search.many = 1 + random.nextInt(4);
        sky.shift(search.shift);
        sky.noise(search.strength, search.many);
        int echoes = 1 + random.nextInt(14);
        int spread = 1 + random.nextInt(8);
        int base = random.nextInt(32 - spread);
        int top = 2 + random.nextInt(4);
        for (int i = 0; i < echoes; i++) {
            int tone = random.nextInt(SMALL);
            int height = base + random.nextInt(spread + 1);
            int echo = random.nextInt(top + 1);
            tell(sky, search, tone, height, echo);
        }
        for (int tone = 0; tone < SMALL; tone++) {
            boolean bar = random.nextInt(4) == 0;
            for (int i = 0; bar && i < search.many; i++) {
                tell(sky, search, tone, (base + 16 + i) % 32, search.strength);
            }
        }
        search.all();
        check(round, sky, search);
    }

    private static void tell(SkyEcho sky, Search search, int tone, int height, int echo) {
        search.echo[tone][height] = echo;
        sky.echo(2, tone, height, echo);
    }

    private static void check(int round, SkyEcho sky, Search search) {
        boolean none = search.best == null;
        int last = none ? -1 : search.first + search.best.length - 1;
        due(round, "worth", sky.trace(2, 0), none ? -1 : search.worth);
        due(round, "first", sky.trace(2, 1), search.first);
        due(round, "last", sky.trace(2, 2), last);
        due(round, "letter", sky.trace(2, 3), none ? -1 : search.barred(last + 1) ? 1 : 0);
        for (int t = 0; t < 24; t++) {
            boolean there = !none && t >= search.first && t <= last;
            due(round, "height at " + t, sky.height(2, t), there ? search.best[t - search.first] : -1);
        }
    }

    public static void main(String[] args) {
        Random random = new Random(20261116);
        for (int round = 0; round < ROUNDS; round++) {
            round(round, random);
        }
        System.out.println(wrong == 0 ? "all traces are as due" : wrong + " answers are not as due");
        if (wrong != 0) {
            System.exit(1);
        }
    }
}
