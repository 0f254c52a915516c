import java.util.Random;

/**
 * Worlds are drawn first and books are written that are true of them: whatever the class answers
 * of such a book must leave room for the world itself. An argument tells how many worlds.
 */
public final class TrueWorlds {
    private static int wrong = 0;

    private static void must(int seed, String what, boolean holds) {
        if (!holds) {
            wrong++;
            System.out.println("world " + seed + ": " + what + " leaves the world out");
        }
    }

    public static void main(String[] args) {
        int worlds = args.length > 0 ? Integer.parseInt(args[0]) : 1500;
        for (int seed = 1; seed <= worlds && wrong < 20; seed++) {
            new TrueWorlds(seed).check();
        }
        System.out.println(wrong == 0 ? worlds + " worlds found their room" : wrong + " answers are wrong");
        if (wrong != 0) {
            System.exit(1);
        }
    }

    private final int seed;
    private final Random random;
    private final WeekFoot x = new WeekFoot();
    private final int[] world = new int[16];
    private final int[] keeper = new int[32];
    private final int[] cut = new int[6];

    private TrueWorlds(int seed) {
        this.seed = seed;
        random = new Random(seed);
        int unit = random.nextBoolean() ? 1 : 30;
        for (int l = 0; l < 16; l++) {
            world[l] = unit * (1 + random.nextInt(l < 12 ? 9999 / unit : 1 + 300 / unit));
        }
        for (int t = 0; t < 6; t++) {
            world[t + 6] = Math.min(world[t], world[t + 6]);
            cut[t] = random.nextInt(3) == 0 ? 1 + random.nextInt(31) : -1;
            x.cut(t, cut[t]);
        }
        for (int w = 0; w < 32; w++) {
            keeper[w] = random.nextInt(4);
            x.week(w, keeper[w]);
        }
        for (int l = 0; l < 16; l++) {
            x.tell(l, world[l]);
        }
        for (int i = random.nextInt(30); i > 0; i--) {
            writeOne();
        }
        for (int i = random.nextInt(4); i > 0; i--) {
            int a = random.nextInt(4);
            int b = random.nextInt(4);
            if (world[12 + a] < world[12 + b]) {
                x.shorter(a, b);
            }
        }
    }

    private int lengthIn(int thing, int week) {
        return cut[thing] != -1 && week >= cut[thing] ? thing + 6 : thing;
    }

    private void writeOne() {
        int t = random.nextInt(6);
        int w = random.nextInt(32);
        int l = lengthIn(t, w);
        int k = keeper[w];
        int kind = world[l] % world[12 + k] == 0 ? random.nextInt(3) : 1 + random.nextInt(2);
        int number = kind == 0 ? x.says(l, k, 1) : x.says(l, k, kind);
        if (number >= 1 && number <= 99) {
            x.entry(t, w, number, kind);
        }
    }

    private boolean isThere(int length) {
        return length < 6 || length > 11 || cut[length - 6] != -1;
    }

    private void check() {
        must(seed, "fits", x.fits() == 1);
        must(seed, "judge", x.judge(0) == -1 && x.judge(1) == 0 && x.judge(2) == 1);
        must(seed, "core", x.core() == 0);
        must(seed, "wrong", x.wrong(0) == 0);
        for (int one = 0; one < 16; one++) {
            for (int other = 0; other < 16; other++) {
                if (isThere(one) && isThere(other)) {
                    checkPair(one, other);
                }
            }
        }
        for (int k = 0; k < 4; k++) {
            for (int l = 0; l < 12; l++) {
                if (isThere(l)) {
                    checkFeet(l, k);
                    checkTogether(l, k);
                }
            }
        }
        forgetSome();
    }

    private void checkPair(int one, int other) {
        long millionths = 1000000L * world[one] / world[other];
        int greatest = x.between(one, other, 1);
        must(seed, "least of " + one + " by " + other,
                x.between(one, other, 0) <= Math.min(2000000000L, millionths));
        must(seed, "greatest of " + one + " by " + other,
                greatest == -1 || greatest >= Math.min(2000000000L, millionths));
        int sure = x.sure(one, other);
        int order = Integer.compare(world[one], world[other]);
        must(seed, "sure", sure == 0 || sure == (order > 0 ? 1 : order < 0 ? 2 : 3));
        long upper = x.part(one, other, 0);
        long lower = x.part(one, other, 1);
        must(seed, "part", upper == 0 || upper * world[other] == lower * world[one]);
        must(seed, "joined", x.joined(one, other) == 1 || greatest == -1);
    }

    private void checkFeet(int l, int k) {
        int whole = x.says(l, k, 1);
        must(seed, "fewest feet", x.feet(l, k, 0) <= whole);
        int most = x.feet(l, k, 1);
        must(seed, "most feet", most == -1 || most >= Math.min(2000, whole));
        for (int kind = 0; kind < 3; kind++) {
            int number = kind == 0 ? whole : x.says(l, k, kind);
            boolean isTold = kind != 0 || world[l] % world[12 + k] == 0;
            if (isTold && number >= 1 && number <= 99) {
                must(seed, "would", x.would(l, k, number, kind) > 0);
                must(seed, "numbers", x.numbers(l, k, kind, 1) <= number && x.numbers(l, k, kind, 2) >= number);
                must(seed, "dates", l > 5 || x.dates(l, number, kind, 0) >= weeksOf(l, k));
            }
        }
    }

    private int weeksOf(int thing, int k) {
        int n = 0;
        for (int w = 0; w < 32; w++) {
            n += keeper[w] == k && lengthIn(thing, w) == thing ? 1 : 0;
        }
        return n;
    }

    private void checkTogether(int l, int k) {
        int m = random.nextInt(6);
        int n = random.nextInt(6);
        long foot = world[12 + k];
        long sum = (world[l] + world[m] + world[n]) / foot;
        must(seed, "lay, fewest", x.lay(l, m, n, k, 0) <= sum);
        int most = x.lay(l, m, n, k, 1);
        must(seed, "lay, most", most == -1 || most >= Math.min(6000, sum));
        long area = (long) world[l] * world[m] / (foot * foot);
        must(seed, "area, fewest", x.area(l, m, k, 0) <= area);
        most = x.area(l, m, k, 1);
        must(seed, "area, most", most == -1 || most >= Math.min(4000000, area));
    }

    /** What is forgotten, a keeper or a cut, must be among what could be. */
    private void forgetSome() {
        x.image(0);
        int w = random.nextInt(32);
        x.week(w, -1);
        must(seed, "whose", x.whose(-1) >= 1);
        int sure = x.whose(w);
        must(seed, "whose", sure == -1 || sure == 5 || sure == keeper[w]);
        must(seed, "could", sure == -1 || x.could(w, keeper[w]) >= 1);
        x.back(0);
        for (int t = 0; t < 6; t++) {
            if (cut[t] != -1) {
                x.cut(t, -1);
                must(seed, "when", x.when(t, 0) >= 1 && x.when(t, 1) <= cut[t] && x.when(t, 2) >= cut[t]);
                x.cut(t, cut[t]);
            }
        }
    }
}
