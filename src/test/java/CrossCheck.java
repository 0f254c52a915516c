import java.math.BigInteger;
import java.util.ArrayList;
import java.util.Arrays;
import java.util.List;
import java.util.Random;

/**
 * Runs of drawn calls on WeekFoot and on a second, plain reading of the document: all sixteen
 * lengths held beside one another by big fractions, every set and every way tried one by one.
 * An argument tells how many runs (400 without), a second one the first seed.
 */
public final class CrossCheck {
    private static int wrong = 0;

    public static void main(String[] args) {
        int runs = args.length > 0 ? Integer.parseInt(args[0]) : 400;
        int firstSeed = args.length > 1 ? Integer.parseInt(args[1]) : 1;
        for (int seed = firstSeed; seed < firstSeed + runs && wrong == 0; seed++) {
            new Run(seed).play();
            new Run(seed).playChain();
        }
        System.out.println(wrong == 0 ? runs + " runs agree" : "the two readings differ");
        if (wrong != 0) {
            System.exit(1);
        }
    }

    // ------------------------------------------------------------ fractions

    private static final class Frac implements Comparable<Frac> {
        static final Frac ZERO = of(0, 1);
        static final Frac ONE = of(1, 1);
        final BigInteger top;
        final BigInteger low;

        private Frac(BigInteger top, BigInteger low) {
            BigInteger g = top.gcd(low);
            if (g.signum() == 0) {
                g = BigInteger.ONE;
            }
            this.top = top.divide(g);
            this.low = low.divide(g);
        }

        static Frac of(long top, long low) {
            return new Frac(BigInteger.valueOf(top), BigInteger.valueOf(low));
        }

        Frac times(Frac o) {
            return new Frac(top.multiply(o.top), low.multiply(o.low));
        }

        Frac plus(Frac o) {
            return new Frac(top.multiply(o.low).add(o.top.multiply(low)), low.multiply(o.low));
        }

        Frac turned() {
            return new Frac(low, top);
        }

        BigInteger floor() {
            return top.divide(low);
        }

        boolean isInteger() {
            return low.equals(BigInteger.ONE);
        }

        @Override
        public int compareTo(Frac o) {
            return top.multiply(o.low).compareTo(o.top.multiply(low));
        }
    }

    private static final class Limit {
        final Frac value;
        final boolean open;

        Limit(Frac value, boolean open) {
            this.value = value;
            this.open = open;
        }

        Limit then(Limit o) {
            return new Limit(value.times(o.value), open || o.open);
        }

        boolean isTighterThan(Limit o) {
            if (o == null) {
                return true;
            }
            int order = value.compareTo(o.value);
            return order < 0 || order == 0 && open && !o.open;
        }
    }

    /** Least and greatest of a ratio; greatest null without bound; a least of zero is open. */
    private static final class Range {
        Frac least;
        boolean leastOpen;
        Frac greatest;
        boolean greatestOpen;

        boolean meets(Frac from, Frac to, boolean toOpen) {
            if (greatest != null) {
                int order = greatest.compareTo(from);
                if (order < 0 || order == 0 && greatestOpen) {
                    return false;
                }
            }
            int order = least.compareTo(to);
            return !(order > 0 || order == 0 && (leastOpen || toOpen));
        }

        boolean isWithin(Frac from, Frac to, boolean toOpen) {
            if (greatest == null || least.compareTo(from) < 0) {
                return false;
            }
            int order = greatest.compareTo(to);
            return order < 0 || order == 0 && (greatestOpen || !toOpen);
        }
    }

    // ------------------------------------------------------------ the second reading

    private static final class State implements Cloneable {
        int[] keeper = new int[32];
        int[] cut = new int[6];
        List<int[]> shorter = new ArrayList<>();
        List<int[]> entries = new ArrayList<>();
        int[] told = new int[16];

        State() {
            Arrays.fill(keeper, -1);
            Arrays.fill(cut, -1);
            Arrays.fill(told, 100);
        }

        State copy() {
            State s = new State();
            s.keeper = keeper.clone();
            s.cut = cut.clone();
            s.told = told.clone();
            for (int[] p : shorter) {
                s.shorter.add(p.clone());
            }
            for (int[] e : entries) {
                s.entries.add(e.clone());
            }
            return s;
        }

        boolean hasShorter(int a, int b) {
            for (int[] p : shorter) {
                if (p[0] == a && p[1] == b) {
                    return true;
                }
            }
            return false;
        }

        int length(int thing, int week) {
            return cut[thing] >= 0 && week >= cut[thing] ? thing + 6 : thing;
        }

        boolean there(int length) {
            return length >= 0 && length < 16 && (length < 6 || length >= 12 || cut[length - 6] >= 0);
        }

        static Frac from(int number, int kind) {
            return kind == 2 ? Frac.of(2 * number - 1, 2) : Frac.of(number, 1);
        }

        static Frac to(int number, int kind) {
            return kind == 0 ? Frac.of(number, 1)
                    : kind == 1 ? Frac.of(number + 1, 1) : Frac.of(2 * number + 1, 2);
        }

        int countingMask() {
            int m = 0;
            for (int e = 0; e < entries.size(); e++) {
                if (entries.get(e)[4] == 1) {
                    m |= 1 << e;
                }
            }
            return m;
        }

        /** The tightest limits of each length through each other, or null if it can't be. */
        Limit[][] close(int mask) {
            Limit[][] d = new Limit[16][16];
            for (int e = 0; e < entries.size(); e++) {
                int[] x = entries.get(e);
                int k = keeper[x[1]];
                if ((mask >> e & 1) == 0 || k < 0) {
                    continue;
                }
                int l = length(x[0], x[1]);
                edge(d, l, 12 + k, new Limit(to(x[2], x[3]), x[3] != 0));
                edge(d, 12 + k, l, new Limit(from(x[2], x[3]).turned(), false));
            }
            for (int[] p : shorter) {
                edge(d, 12 + p[0], 12 + p[1], new Limit(Frac.ONE, true));
            }
            for (int t = 0; t < 6; t++) {
                if (cut[t] >= 0) {
                    edge(d, t + 6, t, new Limit(Frac.ONE, false));
                }
            }
            for (int k = 0; k < 16; k++) {
                for (int i = 0; i < 16; i++) {
                    for (int j = 0; j < 16; j++) {
                        if (d[i][k] != null && d[k][j] != null) {
                            edge(d, i, j, d[i][k].then(d[k][j]));
                        }
                    }
                }
                for (int i = 0; i < 16; i++) {
                    if (d[i][i] != null && d[i][i].isTighterThan(new Limit(Frac.ONE, false))) {
                        return null;
                    }
                }
            }
            return d;
        }

        private static void edge(Limit[][] d, int i, int j, Limit l) {
            if (l.isTighterThan(d[i][j])) {
                d[i][j] = l;
            }
        }

        boolean can(int mask) {
            return close(mask) != null;
        }
    }

    private static final class Plain {
        State s = new State();
        State[] image = new State[2];
        int[] tape = new int[0];
        int fault = -1;
        int blurred = 0;
        int[] year;
        int buy = -1;
        int sell = -1;
        int[] refusals = new int[7];
        int status = 0;
        Limit[][] closed;
        boolean fresh = false;

        Limit[][] closed() {
            if (!fresh) {
                closed = s.close(s.countingMask());
                fresh = true;
            }
            return closed;
        }

        int no(int reason) {
            status = reason;
            refusals[-reason]++;
            return reason;
        }

        int yes(int answer) {
            status = 0;
            fresh = false;
            return answer;
        }

        static boolean in(int v, int a, int b) {
            return v >= a && v <= b;
        }

        int week(int w, int k) {
            if (!in(w, 0, 31) || !in(k, -1, 3)) {
                return no(-1);
            }
            int was = s.keeper[w];
            s.keeper[w] = k;
            return yes(was);
        }

        int cut(int t, int w) {
            if (!in(t, 0, 5) || w == 0 || !in(w, -1, 31)) {
                return no(-1);
            }
            int was = s.cut[t];
            s.cut[t] = w;
            return yes(was);
        }

        int shorter(int a, int b) {
            if (!in(a, 0, 3) || !in(b, 0, 3) || a == b) {
                return no(-1);
            }
            if (s.hasShorter(a, b)) {
                return no(-3);
            }
            if (s.shorter.size() == 6) {
                return no(-5);
            }
            s.shorter.add(new int[] {a, b});
            return yes(s.shorter.size());
        }

        static boolean entryOk(int t, int w, int n, int k) {
            return in(t, 0, 5) && in(w, 0, 31) && in(n, 1, 99) && in(k, 0, 2);
        }

        int entry(int t, int w, int n, int k) {
            if (!entryOk(t, w, n, k)) {
                return no(-1);
            }
            if (s.entries.size() == 24) {
                return no(-5);
            }
            s.entries.add(new int[] {t, w, n, k, 1});
            return yes(s.entries.size() - 1);
        }

        int counts(int e, int c) {
            if (!in(e, 0, 23) || !in(c, 0, 1)) {
                return no(-1);
            }
            if (e >= s.entries.size()) {
                return no(-2);
            }
            int was = s.entries.get(e)[4];
            s.entries.get(e)[4] = c;
            return yes(was);
        }

        int of(int e, int what) {
            if (e < 0 || e >= s.entries.size() || !in(what, 0, 5)) {
                return -1;
            }
            int[] x = s.entries.get(e);
            return what == 5 ? s.length(x[0], x[1]) : x[what];
        }

        int feed(int... five) {
            if (tape.length + 20 > 400) {
                return -1;
            }
            int[] next = Arrays.copyOf(tape, tape.length + 20);
            for (int i = 0; i < 20; i++) {
                next[tape.length + i] = five[i / 4] >> 24 - 8 * (i % 4) & 255;
            }
            tape = next;
            return tape.length;
        }

        int end(int n) {
            if (n < 0 || n > tape.length) {
                return -1;
            }
            tape = Arrays.copyOf(tape, n);
            return n;
        }

        int row() {
            if (tape.length == 0) {
                return no(-6);
            }
            int came = 0;
            blurred = 0;
            for (int i = 0; i < tape.length; i += 4) {
                if (i + 3 < tape.length && s.entries.size() < 24
                        && entryOk(tape[i], tape[i + 1], tape[i + 2], tape[i + 3])) {
                    s.entries.add(new int[] {tape[i], tape[i + 1], tape[i + 2], tape[i + 3], 1});
                    came++;
                } else {
                    blurred++;
                }
            }
            tape = new int[0];
            return yes(came);
        }

        int book() {
            StringBuilder text = new StringBuilder();
            for (int b : tape) {
                text.append((char) b);
            }
            tape = new int[0];
            PlainBook book = new PlainBook(text.toString(), s);
            int clauses = book.parse();
            fault = book.fault;
            if (clauses < 0) {
                return no(-6);
            }
            s = book.after;
            return yes(clauses);
        }

        Range range(int one, int other) {
            Limit[][] d = closed();
            Range r = new Range();
            if (one == other) {
                r.least = Frac.ONE;
                r.greatest = Frac.ONE;
                return r;
            }
            Limit up = d[one][other];
            Limit down = d[other][one];
            r.greatest = up == null ? null : up.value;
            r.greatestOpen = up == null || up.open;
            r.least = down == null ? Frac.ZERO : down.value.turned();
            r.leastOpen = down == null || down.open;
            return r;
        }

        boolean nothing(int one, int other) {
            return !s.there(one) || !s.there(other) || closed() == null;
        }

        int between(int one, int other, int what) {
            if (!in(what, 0, 3) || nothing(one, other)) {
                return -2;
            }
            Range r = range(one, other);
            Frac million = Frac.of(1000000, 1);
            switch (what) {
                case 0: return clamp(r.least.times(million).floor(), 2000000000);
                case 1: return r.greatest == null ? -1 : clamp(r.greatest.times(million).floor(), 2000000000);
                case 2: return r.leastOpen ? 0 : 1;
                default: return r.greatestOpen ? 0 : 1;
            }
        }

        static int clamp(BigInteger v, int most) {
            return v.min(BigInteger.valueOf(most)).intValue();
        }

        int sure(int one, int other) {
            if (nothing(one, other)) {
                return -2;
            }
            Range r = range(one, other);
            int a = r.least.compareTo(Frac.ONE);
            int b = r.greatest == null ? 1 : r.greatest.compareTo(Frac.ONE);
            if (a == 0 && b == 0) {
                return 3;
            }
            if (a > 0 || a == 0 && r.leastOpen) {
                return 1;
            }
            return b < 0 || b == 0 && r.greatestOpen ? 2 : 0;
        }

        boolean nothingByFoot(int length, int keeper) {
            return !in(length, 0, 11) || !in(keeper, 0, 3) || nothing(length, 12 + keeper);
        }

        static BigInteger wholes(Frac v, boolean open) {
            BigInteger f = v.floor();
            return open && v.isInteger() ? f.subtract(BigInteger.ONE) : f;
        }

        int feet(int length, int keeper, int what) {
            if (!in(what, 0, 1) || nothingByFoot(length, keeper)) {
                return -2;
            }
            Range r = range(length, 12 + keeper);
            if (what == 0) {
                return clamp(r.least.floor(), 2000);
            }
            return r.greatest == null ? -1 : clamp(wholes(r.greatest, r.greatestOpen), 2000);
        }

        long part(int one, int other, int what) {
            if (!in(what, 0, 1) || nothing(one, other)) {
                return -2;
            }
            Range r = range(one, other);
            if (r.greatest == null || r.greatest.compareTo(r.least) != 0) {
                return 0;
            }
            return (what == 0 ? r.least.top : r.least.low).longValueExact();
        }

        int lay(int one, int two, int three, int keeper, int what) {
            if (!in(what, 0, 1) || nothingByFoot(one, keeper) || nothingByFoot(two, keeper)
                    || three != -1 && nothingByFoot(three, keeper)) {
                return -2;
            }
            Frac sum = Frac.ZERO;
            boolean open = false;
            for (int l : three == -1 ? new int[] {one, two} : new int[] {one, two, three}) {
                Range r = range(l, 12 + keeper);
                if (what == 1 && r.greatest == null) {
                    return -1;
                }
                sum = sum.plus(what == 0 ? r.least : r.greatest);
                open |= what == 1 && r.greatestOpen;
            }
            return clamp(wholes(sum, open), 6000);
        }

        int area(int one, int other, int keeper, int what) {
            if (!in(what, 0, 1) || nothingByFoot(one, keeper) || nothingByFoot(other, keeper)) {
                return -2;
            }
            Range r = range(one, 12 + keeper);
            Range q = range(other, 12 + keeper);
            if (what == 0) {
                return clamp(r.least.times(q.least).floor(), 4000000);
            }
            if (r.greatest == null || q.greatest == null) {
                return -1;
            }
            return clamp(wholes(r.greatest.times(q.greatest), r.greatestOpen || q.greatestOpen), 4000000);
        }

        boolean couldTell(int length, int keeper, int number, int kind) {
            return range(length, 12 + keeper).meets(State.from(number, kind), State.to(number, kind), kind != 0);
        }

        int would(int length, int keeper, int number, int kind) {
            if (!in(number, 1, 99) || !in(kind, 0, 2) || nothingByFoot(length, keeper)) {
                return -2;
            }
            if (!couldTell(length, keeper, number, kind)) {
                return 0;
            }
            boolean all = range(length, 12 + keeper)
                    .isWithin(State.from(number, kind), State.to(number, kind), kind != 0);
            return all ? 1 : 2;
        }

        int numbers(int length, int keeper, int kind, int what) {
            if (!in(kind, 0, 2) || !in(what, 0, 2) || nothingByFoot(length, keeper)) {
                return -2;
            }
            List<Integer> all = new ArrayList<>();
            for (int n = 1; n <= 99; n++) {
                if (couldTell(length, keeper, n, kind)) {
                    all.add(n);
                }
            }
            return of(all, what);
        }

        static int of(List<Integer> all, int what) {
            if (what == 0) {
                return all.size();
            }
            return all.isEmpty() ? -1 : what == 1 ? all.get(0) : all.get(all.size() - 1);
        }

        int ask(int what) {
            if (!in(what, 0, 2) || closed() == null) {
                return -1;
            }
            int[] best = {-1, -1, -1};
            for (int l = 0; l < 12; l++) {
                for (int k = 0; k < 4; k++) {
                    int n = numbers(l, k, 1, 0);
                    if (s.there(l) && n > best[2]) {
                        best = new int[] {l, k, n};
                    }
                }
            }
            return best[what];
        }

        int dates(int thing, int number, int kind, int what) {
            if (!entryOk(thing, 0, number, kind) || !in(what, 0, 2) || closed() == null) {
                return -2;
            }
            List<Integer> all = new ArrayList<>();
            for (int w = 0; w < 32; w++) {
                if (s.keeper[w] >= 0 && couldTell(s.length(thing, w), s.keeper[w], number, kind)) {
                    all.add(w);
                }
            }
            return of(all, what);
        }

        boolean[][] ways() {
            boolean[][] tied = new boolean[16][16];
            for (int i = 0; i < 16; i++) {
                tied[i][i] = s.there(i);
            }
            for (int[] e : s.entries) {
                if (s.keeper[e[1]] >= 0) {
                    int l = s.length(e[0], e[1]);
                    tied[l][12 + s.keeper[e[1]]] = true;
                    tied[12 + s.keeper[e[1]]][l] = true;
                }
            }
            for (int[] p : s.shorter) {
                tied[12 + p[0]][12 + p[1]] = true;
                tied[12 + p[1]][12 + p[0]] = true;
            }
            for (int t = 0; t < 6; t++) {
                if (s.cut[t] >= 0) {
                    tied[t][t + 6] = true;
                    tied[t + 6][t] = true;
                }
            }
            for (int k = 0; k < 16; k++) {
                for (int i = 0; i < 16; i++) {
                    for (int j = 0; j < 16; j++) {
                        tied[i][j] |= tied[i][k] && tied[k][j];
                    }
                }
            }
            return tied;
        }

        int joined(int one, int other) {
            return !s.there(one) || !s.there(other) ? -2 : ways()[one][other] ? 1 : 0;
        }

        int groups(int what) {
            if (!in(what, 0, 2)) {
                return -1;
            }
            boolean[][] tied = ways();
            int groups = 0;
            int most = 0;
            for (int i = 0; i < 16; i++) {
                int size = 0;
                boolean first = s.there(i);
                for (int j = 0; j < 16; j++) {
                    size += tied[i][j] ? 1 : 0;
                    first &= !(tied[i][j] && j < i);
                }
                groups += first ? 1 : 0;
                most = Math.max(most, size);
            }
            return what == 0 ? groups : what == 1 ? groups - 1 : most;
        }

        int core() {
            if (closed() != null) {
                return 0;
            }
            if (!s.can(0)) {
                return -1;
            }
            int left = s.countingMask();
            for (int e = 0; e < 24; e++) {
                if ((left >> e & 1) == 1 && !s.can(left & ~(1 << e))) {
                    left &= ~(1 << e);
                }
            }
            return left;
        }

        int[] wrongs;
        int wrongsOf = -1;

        int wrong(int what) {
            if (!in(what, 0, 2)) {
                return -1;
            }
            int mask = s.countingMask();
            for (int size = 0; size <= 2; size++) {
                int ways = 0;
                int lowest = 0;
                for (int a = 0; a < (size > 0 ? 24 : 1); a++) {
                    for (int b = size > 1 ? a + 1 : 0; b < (size > 1 ? 24 : 1); b++) {
                        int bits = (size > 0 ? 1 << a : 0) | (size > 1 ? 1 << b : 0);
                        if ((bits & ~mask) == 0 && s.can(mask & ~bits)) {
                            ways++;
                            lowest = ways == 1 ? bits : Math.min(lowest, bits);
                        }
                    }
                }
                if (ways > 0) {
                    return what == 0 ? size : what == 1 ? ways : lowest;
                }
            }
            return -1;
        }

        /** All ways, each as the keepers of the sought weeks; null if these are too many. */
        List<int[]> keeperWays(List<Integer> weeks) {
            for (int w = 0; w < 32; w++) {
                boolean has = false;
                for (int[] e : s.entries) {
                    has |= e[1] == w && e[4] == 1;
                }
                if (has && s.keeper[w] < 0) {
                    weeks.add(w);
                }
            }
            if (weeks.size() > 3) {
                return null;
            }
            List<int[]> ways = new ArrayList<>();
            give(s.copy(), weeks, 0, ways);
            return ways;
        }

        private static void give(State t, List<Integer> weeks, int at, List<int[]> ways) {
            if (at == weeks.size()) {
                if (t.can(t.countingMask())) {
                    int[] way = new int[at];
                    for (int i = 0; i < at; i++) {
                        way[i] = t.keeper[weeks.get(i)];
                    }
                    ways.add(way);
                }
                return;
            }
            for (int k = 0; k < 4; k++) {
                t.keeper[weeks.get(at)] = k;
                give(t, weeks, at + 1, ways);
            }
        }

        int whose(int week) {
            List<Integer> weeks = new ArrayList<>();
            List<int[]> ways = keeperWays(weeks);
            if (ways == null) {
                return -1;
            }
            if (week == -1) {
                return ways.size();
            }
            int place = weeks.indexOf(week);
            if (place < 0 || ways.isEmpty()) {
                return -1;
            }
            for (int[] way : ways) {
                if (way[place] != ways.get(0)[place]) {
                    return 5;
                }
            }
            return ways.get(0)[place];
        }

        int could(int week, int keeper) {
            List<Integer> weeks = new ArrayList<>();
            List<int[]> ways = keeperWays(weeks);
            int place = weeks.indexOf(week);
            if (ways == null || place < 0 || !in(keeper, 0, 3)) {
                return -1;
            }
            int n = 0;
            for (int[] way : ways) {
                n += way[place] == keeper ? 1 : 0;
            }
            return n;
        }

        int when(int thing, int what) {
            if (!in(thing, 0, 5) || !in(what, 0, 2) || s.cut[thing] >= 0) {
                return -1;
            }
            List<Integer> all = new ArrayList<>();
            for (int w = 1; w < 32; w++) {
                State t = s.copy();
                t.cut[thing] = w;
                if (t.can(t.countingMask())) {
                    all.add(w);
                }
            }
            return of(all, what);
        }

        int tell(int l, int v) {
            if (!in(l, 0, 15) || !in(v, 1, 9999)) {
                return no(-1);
            }
            int was = s.told[l];
            s.told[l] = v;
            return yes(was);
        }

        int says(int l, int k, int kind) {
            if (!in(l, 0, 11) || !in(k, 0, 3) || !in(kind, 0, 2)) {
                return -1;
            }
            Frac f = Frac.of(s.told[l], s.told[12 + k]);
            if (kind == 0) {
                return f.times(Frac.of(100, 1)).floor().intValue();
            }
            return (kind == 1 ? f : f.plus(Frac.of(1, 2))).floor().intValue();
        }

        int judge(int what) {
            int first = -1;
            int many = 0;
            for (int i = 0; i < s.entries.size(); i++) {
                int[] e = s.entries.get(i);
                int k = s.keeper[e[1]];
                if (e[4] == 0 || k < 0) {
                    continue;
                }
                Frac f = Frac.of(s.told[s.length(e[0], e[1])], s.told[12 + k]);
                int a = f.compareTo(State.from(e[2], e[3]));
                int b = f.compareTo(State.to(e[2], e[3]));
                if (a < 0 || b > 0 || b == 0 && e[3] != 0) {
                    many++;
                    first = first < 0 ? i : first;
                }
            }
            boolean fits = many == 0;
            for (int[] p : s.shorter) {
                fits &= s.told[12 + p[0]] < s.told[12 + p[1]];
            }
            for (int t = 0; t < 6; t++) {
                fits &= s.cut[t] < 0 || s.told[t + 6] <= s.told[t];
            }
            return what == 0 ? first : what == 1 ? many : what == 2 ? fits ? 1 : 0 : -1;
        }

        int year(int seed, int thing, int price) {
            if (!in(seed, 0, 1000000) || !in(thing, 0, 5) || !in(price, 1, 99)) {
                return no(-1);
            }
            long x = seed;
            year = new int[32];
            for (int w = 0; w < 32; w++) {
                x = (x * 1103 + 12345) % 1000003;
                year[w] = (int) (x % 4);
            }
            int gain = 0;
            buy = -1;
            sell = -1;
            for (int a = 0; a < 32; a++) {
                for (int b = a + 1; b < 32; b++) {
                    int g = price * (says(thing, year[b], 1) - says(thing, year[a], 1));
                    if (g > gain) {
                        gain = g;
                        buy = a;
                        sell = b;
                    }
                }
            }
            return yes(gain);
        }

        int trade(int what) {
            if (year == null || !in(what, 0, 33)) {
                return -1;
            }
            return what == 0 ? buy : what == 1 ? sell : year[what - 2];
        }

        int told(int thing) {
            if (year == null || !in(thing, 0, 5)) {
                return -1;
            }
            int sum = 0;
            for (int w = 0; w < 32; w++) {
                sum += says(s.length(thing, w), year[w], 1);
            }
            return sum;
        }

        int image(int k) {
            if (!in(k, 0, 1)) {
                return no(-1);
            }
            image[k] = s.copy();
            return yes(0);
        }

        int back(int k) {
            if (!in(k, 0, 1)) {
                return no(-1);
            }
            if (image[k] == null) {
                return no(-2);
            }
            s = image[k].copy();
            return yes(0);
        }

        int count(int what) {
            int n = 0;
            switch (what) {
                case 0: return s.entries.size();
                case 1: return Integer.bitCount(s.countingMask());
                case 2: return s.shorter.size();
                case 3:
                    for (int k : s.keeper) {
                        n += k >= 0 ? 1 : 0;
                    }
                    return n;
                case 4:
                    for (int c : s.cut) {
                        n += c >= 0 ? 1 : 0;
                    }
                    return n;
                case 5: return tape.length;
                case 6: return refusals[1];
                case 7: return refusals[2];
                case 8: return refusals[3];
                case 9: return refusals[5];
                case 10: return refusals[6];
                default: return -1;
            }
        }
    }

    /** All tokens first, then the clauses as told in the document. */
    private static final class PlainBook {
        final List<String> words = new ArrayList<>();
        final List<Integer> places = new ArrayList<>();
        final State after;
        int at = 0;
        int fault = -1;

        PlainBook(String text, State before) {
            after = before.copy();
            java.util.regex.Matcher m = java.util.regex.Pattern
                    .compile("[a-z]+|[0-9]+|[^ ]", java.util.regex.Pattern.DOTALL).matcher(text);
            while (m.find()) {
                words.add(m.group());
                places.add(m.start());
            }
            words.add("");
            places.add(text.length());
        }

        private static final class Fault extends RuntimeException {
            private static final long serialVersionUID = 1L;
            final int place;

            Fault(int place) {
                this.place = place;
            }
        }

        int parse() {
            try {
                int n = 0;
                do {
                    clause();
                    n++;
                } while (opt(";"));
                if (!words.get(at).isEmpty()) {
                    throw new Fault(places.get(at));
                }
                return n;
            } catch (Fault f) {
                fault = f.place;
                return -1;
            }
        }

        boolean opt(String w) {
            if (words.get(at).equals(w)) {
                at++;
                return true;
            }
            return false;
        }

        void need(String w) {
            if (!opt(w)) {
                throw new Fault(places.get(at));
            }
        }

        int num(int a, int b) {
            String w = words.get(at);
            if (w.isEmpty() || !Character.isDigit(w.charAt(0))) {
                throw new Fault(places.get(at));
            }
            BigInteger v = new BigInteger(w);
            if (v.compareTo(BigInteger.valueOf(a)) < 0 || v.compareTo(BigInteger.valueOf(b)) > 0) {
                throw new Fault(places.get(at));
            }
            at++;
            return v.intValue();
        }

        void clause() {
            int start = places.get(at);
            if (opt("week")) {
                int a = num(0, 31);
                int b = opt("to") ? num(a, 31) : a;
                need("by");
                int k = opt("nobody") ? -1 : num(0, 3);
                for (int w = a; w <= b; w++) {
                    after.keeper[w] = k;
                }
            } else if (opt("keeper")) {
                int a = num(0, 3);
                need("below");
                int second = places.get(at);
                int b = num(0, 3);
                if (a == b) {
                    throw new Fault(second);
                }
                if (!after.hasShorter(a, b)) {
                    if (after.shorter.size() == 6) {
                        throw new Fault(start);
                    }
                    after.shorter.add(new int[] {a, b});
                }
            } else {
                need("thing");
                int t = num(0, 5);
                if (opt("cut")) {
                    if (opt("never")) {
                        after.cut[t] = -1;
                    } else {
                        need("in");
                        after.cut[t] = num(1, 31);
                    }
                } else {
                    do {
                        measure(t);
                    } while (opt(","));
                }
            }
        }

        void measure(int t) {
            int start = places.get(at);
            need("in");
            if (after.entries.size() == 24) {
                throw new Fault(start);
            }
            int w = num(0, 31);
            need("is");
            int n = num(1, 99);
            int kind = opt("whole") ? 1 : opt("half") ? 2 : 0;
            if (kind == 0) {
                opt("exact");
            }
            after.entries.add(new int[] {t, w, n, kind, 1});
        }
    }

    // ------------------------------------------------------------ drawn calls

    private static final class Run {
        final Random random;
        final int seed;
        final WeekFoot x = new WeekFoot();
        final Plain p = new Plain();
        final StringBuilder log = new StringBuilder();
        final int weeks;
        final int things;
        // whether what is told is mostly true of a drawn world, its keepers and its cuts
        final boolean steady;
        final int[] world = new int[16];
        final int[] keeper = new int[32];
        final int[] cut = new int[6];

        Run(int seed) {
            this.seed = seed;
            random = new Random(seed);
            weeks = 1 + random.nextInt(random.nextBoolean() ? 5 : 32);
            things = 1 + random.nextInt(6);
            steady = random.nextInt(4) > 0;
            int coarse = random.nextBoolean() ? 1 : 60;
            for (int i = 0; i < 16; i++) {
                world[i] = i < 12 ? 200 + random.nextInt(9000) : 80 + random.nextInt(300);
                world[i] = Math.max(1, world[i] / coarse) * coarse;
            }
            for (int i = 0; i < 6; i++) {
                world[i + 6] = 1 + random.nextInt(world[i]);
                cut[i] = random.nextInt(3) == 0 ? 1 + random.nextInt(weeks) : -1;
                cut[i] = Math.min(31, cut[i]);
            }
            for (int w = 0; w < 32; w++) {
                keeper[w] = random.nextInt(4);
            }
        }

        int any(int n) {
            return random.nextInt(n);
        }

        /** Mostly from a to b, now and then beside it. */
        int some(int a, int b) {
            int odd = any(40);
            if (odd == 0) {
                return a - 1;
            }
            if (odd == 1) {
                return b + 1;
            }
            if (odd == 2) {
                return any(4) == 0 ? random.nextInt() : a - 2 + any(b - a + 5);
            }
            return a + any(b - a + 1);
        }

        void due(String call, long got, long want) {
            log.append(call).append(" = ").append(got).append('\n');
            if (got != want) {
                wrong++;
                System.out.println("seed " + seed + ": " + call + " answered " + got + ", the plain reading " + want);
                System.out.println(log);
            }
        }

        void play() {
            if (any(3) > 0) {
                for (int w = 0; w < weeks; w++) {
                    int k = any(12) == 0 ? -1 : keeper[w];
                    due("week(" + w + "," + k + ")", x.week(w, k), p.week(w, k));
                }
            }
            for (int t = 0; steady && t < things; t++) {
                due("cut(" + t + "," + cut[t] + ")", x.cut(t, cut[t]), p.cut(t, cut[t]));
            }
            int calls = 60 + any(300);
            for (int i = 0; i < calls && wrong == 0; i++) {
                if (any(3) == 0) {
                    change();
                } else {
                    look();
                }
            }
        }

        /** Feet tied one behind another by drawn numbers: the longest ways, the longest fractions. */
        void playChain() {
            for (int k = 0; k < 4; k++) {
                due("week(" + k + "," + k + ")", x.week(k, k), p.week(k, k));
            }
            boolean split = any(3) == 0;
            for (int t = 0; split && t < 3; t++) {
                due("cut(" + t + "," + (t + 1) + ")", x.cut(t, t + 1), p.cut(t, t + 1));
            }
            for (int t = 0; t < 6; t++) {
                int n = any(3) > 0 ? 90 + any(10) : 1 + any(99);
                tie(t, t < 3 ? t : any(4), n);
                if (t < 3) {
                    int m = split ? 1 + any(n) : any(4) > 0 ? Math.max(1, n - any(4)) : 1 + any(99);
                    tie(t, t + 1, m);
                }
            }
            for (int i = 0; i < 120 && wrong == 0; i++) {
                look();
            }
        }

        void tie(int thing, int week, int number) {
            int kind = any(6) == 0 ? 0 : 1 + any(2);
            due("entry(" + thing + "," + week + "," + number + "," + kind + ")",
                    x.entry(thing, week, number, kind), p.entry(thing, week, number, kind));
        }

        int thing() {
            return any(30) == 0 ? some(0, 5) : any(things);
        }

        int week() {
            return any(30) == 0 ? some(0, 31) : any(weeks);
        }

        /** A number that the drawn world would tell, if the run is steady. */
        int number(int t, int w, int kind) {
            boolean isThere = w >= 0 && w < 32 && t >= 0 && t < 6;
            if (!steady || !isThere || any(60) == 0) {
                return any(3) == 0 ? some(1, 99) : 1 + any(12);
            }
            int l = cut[t] >= 0 && w >= cut[t] ? t + 6 : t;
            int foot = world[12 + keeper[w]];
            int n = kind == 2 ? (2 * world[l] + foot) / (2 * foot) : world[l] / foot;
            return n < 1 || n > 99 ? 1 + any(99) : n;
        }

        int kind() {
            return any(60) == 0 ? some(0, 2) : any(steady ? 40 : 3) == 0 ? 0 : 1 + any(2);
        }

        int keeperFor(int week) {
            boolean isDrawn = steady && week >= 0 && week < 32 && any(30) > 0;
            return isDrawn ? any(5) == 0 ? -1 : keeper[week] : some(-1, 3);
        }

        void change() {
            int a;
            int b;
            switch (any(24)) {
                case 0: case 1:
                    a = week();
                    b = keeperFor(a);
                    due("week(" + a + "," + b + ")", x.week(a, b), p.week(a, b));
                    break;
                case 2:
                    a = thing();
                    b = any(2) == 0 ? -1 : any(2) == 0 ? some(1, 31) : week();
                    b = steady && a >= 0 && a < 6 && any(20) > 0 ? cut[a] : b;
                    due("cut(" + a + "," + b + ")", x.cut(a, b), p.cut(a, b));
                    break;
                case 3:
                    a = some(0, 3);
                    b = some(0, 3);
                    if (steady && a >= 0 && a < 4 && b >= 0 && b < 4 && world[12 + a] > world[12 + b]) {
                        int c = a;
                        a = b;
                        b = c;
                    }
                    due("shorter(" + a + "," + b + ")", x.shorter(a, b), p.shorter(a, b));
                    break;
                case 4: case 5: case 6: case 7: case 8: case 9: case 10:
                    entry();
                    break;
                case 11: case 12:
                    mend();
                    break;
                case 13:
                    a = some(0, any(3) == 0 ? 23 : Math.max(0, p.s.entries.size() - 1));
                    b = some(0, 1);
                    due("counts(" + a + "," + b + ")", x.counts(a, b), p.counts(a, b));
                    break;
                case 14: case 15:
                    text();
                    break;
                case 16:
                    bytes();
                    break;
                case 17: case 18:
                    a = some(0, 15);
                    b = any(2) == 0 ? some(1, 9999) : a >= 0 && a < 16 ? world[a] : 5;
                    due("tell(" + a + "," + b + ")", x.tell(a, b), p.tell(a, b));
                    break;
                case 19:
                    a = some(0, 1000000);
                    b = thing();
                    int c = some(1, 99);
                    due("year(" + a + "," + b + "," + c + ")", x.year(a, b, c), p.year(a, b, c));
                    break;
                case 20:
                    a = some(0, 1);
                    due("image(" + a + ")", x.image(a), p.image(a));
                    break;
                case 21:
                    a = some(0, 1);
                    due("back(" + a + ")", x.back(a), p.back(a));
                    break;
                case 22:
                    a = some(0, 31);
                    due("end(" + a + ")", x.end(a), p.end(a));
                    break;
                default:
                    due("book()", x.book(), p.book());
                    due("fault()", x.fault(), p.fault);
                    break;
            }
            due("status()", x.status(), p.status);
        }

        /** Strikes an entry that can't be with the others, so that not all runs end in that. */
        void mend() {
            int bits = x.core();
            for (int e = 0; e < 24; e++) {
                if (bits > 0 && (bits >> e & 1) == 1 && any(2) == 0) {
                    due("counts(" + e + ",0)", x.counts(e, 0), p.counts(e, 0));
                    return;
                }
            }
        }

        void entry() {
            int t = thing();
            int w = week();
            int kind = kind();
            boolean isThere = steady && w >= 0 && w < 32 && t >= 0 && t < 6;
            if (isThere && world[cut[t] >= 0 && w >= cut[t] ? t + 6 : t] % world[12 + keeper[w]] == 0) {
                kind = any(3);
            }
            int n = number(t, w, kind);
            due("entry(" + t + "," + w + "," + n + "," + kind + ")", x.entry(t, w, n, kind), p.entry(t, w, n, kind));
        }

        void feedAll(int[] bytes) {
            for (int i = 0; i < bytes.length; i += 20) {
                int[] five = new int[5];
                for (int j = 0; j < 20; j++) {
                    int b = i + j < bytes.length ? bytes[i + j] : 32;
                    five[j / 4] |= b << 24 - 8 * (j % 4);
                }
                due("feed(" + Arrays.toString(five) + ")",
                        x.feed(five[0], five[1], five[2], five[3], five[4]), p.feed(five));
            }
        }

        void bytes() {
            int n = 1 + any(any(4) == 0 ? 40 : 8);
            int[] row = new int[4 * n + (any(3) == 0 ? any(4) : 0)];
            for (int i = 0; i + 3 < row.length; i += 4) {
                row[i] = thing() & 255;
                row[i + 1] = week() & 255;
                row[i + 3] = kind() & 255;
                row[i + 2] = number(row[i], row[i + 1], row[i + 3]) & 255;
            }
            int before = p.tape.length;
            feedAll(row);
            int n2 = before + row.length;
            due("end(" + n2 + ")", x.end(n2), p.end(n2));
            due("row()", x.row(), p.row());
            due("blurred()", x.blurred(), p.blurred);
        }

        void text() {
            if (any(10) > 0) {
                due("end(0)", x.end(0), p.end(0));
            }
            StringBuilder t = new StringBuilder();
            int n = 1 + any(any(5) == 0 ? 12 : 3);
            for (int i = 0; i < n; i++) {
                t.append(i == 0 ? "" : any(30) == 0 ? " " : blank() + ";" + blank()).append(clause());
            }
            if (any(3) == 0) {
                spoil(t);
            }
            int[] bytes = new int[t.length()];
            for (int i = 0; i < bytes.length; i++) {
                bytes[i] = t.charAt(i);
            }
            int before = p.tape.length;
            feedAll(bytes);
            if (any(4) > 0) {
                int end = before + bytes.length;
                due("end(" + end + ")", x.end(end), p.end(end));
            }
            due("book() of " + t, x.book(), p.book());
            due("fault()", x.fault(), p.fault);
        }

        String blank() {
            return any(3) == 0 ? any(3) == 0 ? "  " : " " : "";
        }

        void spoil(StringBuilder t) {
            for (int i = 1 + any(3); i > 0 && t.length() > 0; i--) {
                int at = any(t.length());
                switch (any(4)) {
                    case 0: t.deleteCharAt(at); break;
                    case 1: t.setLength(at); break;
                    case 2: t.insert(at, "0123456789 ;,abyn".charAt(any(17))); break;
                    default: t.setCharAt(at, (char) any(256)); break;
                }
            }
        }

        String clause() {
            switch (any(6)) {
                case 0:
                    int from = week();
                    int by = keeperFor(from);
                    return "week " + from + (any(3) == 0 ? " to " + (any(2) == 0 ? from : week()) : "") + " by " + (by == -1 ? "nobody" : "" + by);
                case 1:
                    int one = some(0, 3);
                    int other = some(0, 3);
                    boolean turn = steady && one >= 0 && one < 4 && other >= 0 && other < 4 && world[12 + one] > world[12 + other];
                    return "keeper " + (turn ? other : one) + blank() + "below " + (turn ? one : other);
                case 2:
                    int of = thing();
                    int in = steady && of >= 0 && of < 6 ? cut[of] : any(2) == 0 ? -1 : some(1, 31);
                    return "thing " + of + " cut " + (in == -1 ? "never" : "in " + in);
                default:
                    StringBuilder t = new StringBuilder("thing");
                    int thing = thing();
                    t.append(any(2) == 0 ? " " : "").append(thing);
                    int n = 1 + any(any(6) == 0 ? 14 : 3);
                    for (int i = 0; i < n; i++) {
                        int w = week();
                        int kind = steady ? 1 + any(2) : any(3);
                        t.append(i > 0 ? "," : "").append(" in ").append(any(9) == 0 ? "0" : "").append(w).append(" is ")
                                .append(number(thing, w, kind))
                                .append(kind == 0 ? any(2) == 0 ? "" : " exact" : kind == 1 ? "whole" : " half");
                    }
                    return t.toString();
            }
        }

        /** Mostly a length that is there, and one of the things in use. */
        int length(int most) {
            int drawn = any(things) + (any(3) == 0 ? 6 : 0);
            drawn = most > 11 && any(3) == 0 ? 12 + any(4) : drawn;
            return any(8) > 0 && p.s.there(drawn) ? drawn : some(0, most);
        }

        void look() {
            int a = length(15);
            int b = length(15);
            int c = length(11);
            int k = some(0, 3);
            int what = some(0, 3);
            int near = p.feet(c, k, any(2)) + any(3) - 1;
            int n = any(3) > 0 ? Math.max(1, Math.min(99, near)) : some(1, 99);
            int kind = some(0, 2);
            int which = some(0, 2);
            switch (any(34)) {
                case 0: due("fits()", x.fits(), p.closed() == null ? 0 : 1); break;
                case 1: case 2: case 3: case 4:
                    due("between(" + a + "," + b + "," + what + ")", x.between(a, b, what), p.between(a, b, what));
                    break;
                case 5: case 6: due("sure(" + a + "," + b + ")", x.sure(a, b), p.sure(a, b)); break;
                case 7: case 8: due("feet(" + c + "," + k + "," + which + ")", x.feet(c, k, which), p.feet(c, k, which)); break;
                case 9: due("part(" + a + "," + b + "," + which + ")", x.part(a, b, which), p.part(a, b, which)); break;
                case 10: case 11: case 12: lay(); break;
                case 13: case 14:
                    int d = length(11);
                    due("area(" + c + "," + d + "," + k + "," + which + ")", x.area(c, d, k, which), p.area(c, d, k, which));
                    break;
                case 15: case 16:
                    due("would(" + c + "," + k + "," + n + "," + kind + ")", x.would(c, k, n, kind), p.would(c, k, n, kind));
                    break;
                case 17: case 18:
                    due("numbers(" + c + "," + k + "," + kind + "," + which + ")", x.numbers(c, k, kind, which), p.numbers(c, k, kind, which));
                    break;
                case 19: due("ask(" + which + ")", x.ask(which), p.ask(which)); break;
                case 20:
                    int t = thing();
                    due("dates(" + t + "," + n + "," + kind + "," + which + ")", x.dates(t, n, kind, which), p.dates(t, n, kind, which));
                    break;
                case 21: due("joined(" + a + "," + b + ")", x.joined(a, b), p.joined(a, b)); break;
                case 22: due("groups(" + which + ")", x.groups(which), p.groups(which)); break;
                case 23: due("core()", x.core(), p.core()); break;
                case 24: due("wrong(" + which + ")", x.wrong(which), p.wrong(which)); break;
                case 25:
                    int w = any(3) == 0 ? -1 : week();
                    due("whose(" + w + ")", x.whose(w), p.whose(w));
                    break;
                case 26:
                    int v = week();
                    due("could(" + v + "," + k + ")", x.could(v, k), p.could(v, k));
                    break;
                case 27: due("when(" + c + "," + which + ")", x.when(c, which), p.when(c, which)); break;
                case 28: due("says(" + c + "," + k + "," + kind + ")", x.says(c, k, kind), p.says(c, k, kind)); break;
                case 29: due("judge(" + which + ")", x.judge(which), p.judge(which)); break;
                case 30:
                    int f = some(0, 33);
                    due("trade(" + f + ")", x.trade(f), p.trade(f));
                    break;
                case 31: due("told(" + c + ")", x.told(c), p.told(c)); break;
                case 32:
                    int e = some(0, 10);
                    due("count(" + e + ")", x.count(e), p.count(e));
                    break;
                default:
                    int g = some(0, 23);
                    int h = some(0, 5);
                    due("of(" + g + "," + h + ")", x.of(g, h), p.of(g, h));
                    break;
            }
        }

        void lay() {
            int a = length(11);
            int b = length(11);
            int c = any(3) == 0 ? -1 : length(11);
            int k = some(0, 3);
            int what = some(0, 1);
            due("lay(" + a + "," + b + "," + c + "," + k + "," + what + ")", x.lay(a, b, c, k, what), p.lay(a, b, c, k, what));
        }
    }
}
