import java.util.function.IntToLongFunction;
import java.util.function.Supplier;

/** What the tests by hand share: answers looked at, texts typed, objects with something told. */
class Desk {
    static final int NONE = WeekFoot.NONE;
    static final int NOTHING = -2;
    static final int EXACT = 0;
    static final int WHOLE = 1;
    static final int HALF = 2;
    /** What a call can be refused by, in the order of count(6) .. count(10). */
    static final int[] REASONS = {-1, -2, -3, -5, -6};

    private static int checked = 0;
    private static int wrong = 0;
    private static String sentence = "";

    /** A call with one number that is tried at its edges. */
    interface Deed {
        long on(WeekFoot x, int value);
    }

    /** The document's sentence that the next answers are looked at for. */
    static void at(String aSentence) {
        sentence = aSentence;
    }

    static void due(String what, long got, long want) {
        checked++;
        if (got != want) {
            wrong++;
            System.out.println(sentence + ": " + what + " answered " + got + ", due is " + want);
        }
    }

    static void finish() {
        System.out.println(checked + " answers looked at, " + wrong + " are not as due");
        if (wrong != 0) {
            System.exit(1);
        }
    }

    // ------------------------------------------------------------ texts

    /** Feeds a text, padded to twenties, and cuts the padding off. */
    static void type(WeekFoot x, String text) {
        int before = x.count(5);
        for (int i = 0; i < text.length(); i += 20) {
            int[] five = new int[5];
            for (int j = 0; j < 20; j++) {
                int sign = i + j < text.length() ? text.charAt(i + j) : ' ';
                five[j / 4] |= sign << 24 - 8 * (j % 4);
            }
            x.feed(five[0], five[1], five[2], five[3], five[4]);
        }
        x.end(before + text.length());
    }

    static int bookOf(WeekFoot x, String text) {
        type(x, text);
        return x.book();
    }

    static void dueTaken(WeekFoot x, String text, int clauses) {
        due("book " + text, bookOf(x, text), clauses);
        due("fault of " + text, x.fault(), NONE);
    }

    static void dueFault(WeekFoot x, String text, int place) {
        due("book " + text, bookOf(x, text), -6);
        due("fault of " + text, x.fault(), place);
    }

    /** Bytes by fours as a row of entries. */
    static int rowOf(WeekFoot x, int... bytes) {
        StringBuilder text = new StringBuilder();
        for (int b : bytes) {
            text.append((char) b);
        }
        type(x, text.toString());
        return x.row();
    }

    // ------------------------------------------------------------ objects

    static WeekFoot written(String text) {
        WeekFoot x = new WeekFoot();
        due("whether it is taken: " + text, bookOf(x, text) > 0 ? 1 : 0, 1);
        return x;
    }

    /** Weeks 0 .. 3 by keepers 0 .. 3. */
    static WeekFoot withKeepers() {
        WeekFoot x = new WeekFoot();
        for (int k = 0; k < 4; k++) {
            x.week(k, k);
        }
        return x;
    }

    static WeekFoot withEntries(int many) {
        WeekFoot x = new WeekFoot();
        for (int e = 0; e < many; e++) {
            x.entry(e % 6, e, 1 + e, e % 3);
        }
        return x;
    }

    /** Six times shorter, which can be: 0 below 1 below 2 below 3 and what follows from it. */
    static WeekFoot withSixShorter() {
        WeekFoot x = new WeekFoot();
        for (int one = 0; one < 4; one++) {
            for (int other = one + 1; other < 4; other++) {
                x.shorter(one, other);
            }
        }
        return x;
    }

    /** The keepers of a year with a seed. */
    static int[] drawn(long seed) {
        int[] keepers = new int[32];
        long s = seed;
        for (int w = 0; w < 32; w++) {
            s = (s * 1103 + 12345) % 1000003;
            keepers[w] = (int) (s % 4);
        }
        return keepers;
    }

    // ------------------------------------------------------------ edges

    private static int[] beyond(int least, int most) {
        return new int[] {least - 1, most + 1, Integer.MIN_VALUE, Integer.MAX_VALUE};
    }

    /** What status and count tell behind a first call that was refused by a reason, or by none. */
    static void dueReason(String call, WeekFoot x, int reason) {
        due("status behind " + call, x.status(), reason);
        for (int i = 0; i < REASONS.length; i++) {
            due("count(" + (6 + i) + ") behind " + call, x.count(6 + i), REASONS[i] == reason ? 1 : 0);
        }
    }

    /** The last numbers that a call takes and the first that it refuses by -1, on either side. */
    static void taken(String call, Supplier<WeekFoot> from, Deed deed, int least, int most) {
        for (int value : new int[] {least, most}) {
            WeekFoot x = from.get();
            deed.on(x, value);
            dueReason(call + " of " + value, x, 0);
        }
        for (int value : beyond(least, most)) {
            WeekFoot x = from.get();
            due(call + " of " + value, deed.on(x, value), -1);
            dueReason(call + " of " + value, x, -1);
        }
    }

    /** What a question answers at the edges of a number, and what beyond these. */
    static void answered(String call, IntToLongFunction ask, Edge least, Edge most, long otherwise) {
        due(call + " of " + least.value, ask.applyAsLong(least.value), least.answer);
        due(call + " of " + most.value, ask.applyAsLong(most.value), most.answer);
        for (int value : beyond(least.value, most.value)) {
            due(call + " of " + value, ask.applyAsLong(value), otherwise);
        }
    }

    /** The last number on one side, and what is answered to it. */
    record Edge(int value, long answer) {
    }

    static Edge to(int value, long answer) {
        return new Edge(value, answer);
    }
}
