import java.util.Arrays;

/**
 * Lengths measured by the foot of whoever keeps the gate in a week.
 *
 * All limits between lengths are fractions of longs. Only the four feet are held beside one
 * another; every other length hangs on feet by its entries, so a way from one length to another
 * has at most three steps between feet, each at most 200 / 198: no product leaves a long.
 */
public final class WeekFoot {
    public static final int NONE = -1;

    private static final int NOTHING = -2;

    private static final int BAD_NUMBER = -1;
    private static final int NOT_THERE = -2;
    private static final int CANNOT_BE = -3;
    private static final int NO_ROOM = -5;
    private static final int BAD_TEXT = -6;
    private static final int REASONS = 5;

    private static final int THINGS = 6;
    private static final int KEEPERS = 4;
    private static final int WEEKS = 32;
    private static final int MEASURED = 2 * THINGS;
    private static final int LENGTHS = MEASURED + KEEPERS;
    private static final int TIES = MEASURED * KEEPERS;
    private static final int PAIRS = KEEPERS * KEEPERS;
    private static final int ENTRIES = 24;
    private static final int SHORTERS = 6;
    private static final int LAST_NUMBER = 99;
    private static final int LAST_PRICE = 99;
    private static final int LAST_SEED = 1000000;
    private static final int LONGEST_TOLD = 9999;
    private static final int FIRST_TOLD = 100;
    private static final int TAPE_BYTES = 400;
    private static final int BYTES_EACH = 4;
    private static final int FED_AT_ONCE = 5;
    private static final int IMAGES = 2;
    private static final int SOUGHT = 3;
    private static final int LAID = 3;

    private static final int EXACT = 0;
    private static final int WHOLE = 1;
    private static final int HALF = 2;

    private static final int NOT_SURE = 5;

    private static final long MILLION = 1000000L;
    private static final long MOST_MILLIONTHS = 2000000000L;
    private static final long MOST_FEET = 2000L;
    private static final long MOST_LAID = 6000L;
    private static final long MOST_SQUARE_FEET = 4000000L;

    private final Ledger ledger;
    private final Ledger trial;
    private final Ledger[] images;
    private final boolean[] kept;
    private final Tape tape;
    private final BookReader reader;
    private final Ties ties;
    private final Span span;
    private final Total total;
    private final Bands bands;
    private final Doubt doubt;
    private final Seeking seeking;
    private final Paper paper;
    private final int[] refused;
    private int latestReason;
    private int latestBlurred;
    private int latestFault;

    public WeekFoot() {
        ledger = new Ledger();
        trial = new Ledger();
        images = new Ledger[IMAGES];
        for (int k = 0; k < IMAGES; k++) {
            images[k] = new Ledger();
        }
        kept = new boolean[IMAGES];
        tape = new Tape();
        reader = new BookReader(tape);
        ties = new Ties();
        span = new Span();
        total = new Total();
        bands = new Bands();
        doubt = new Doubt(ties);
        seeking = new Seeking(ties);
        paper = new Paper();
        refused = new int[REASONS];
        latestReason = 0;
        latestBlurred = 0;
        latestFault = NONE;
    }

    // ------------------------------------------------------------ what is written

    public int week(int week, int keeper) {
        if (!isWeek(week) || !within(keeper, NONE, KEEPERS - 1)) {
            return refuse(BAD_NUMBER);
        }
        int was = ledger.keeper[week];
        ledger.keeper[week] = keeper;
        return accept(was);
    }

    public int cut(int thing, int week) {
        if (!isThing(thing) || (week != NONE && !within(week, 1, WEEKS - 1))) {
            return refuse(BAD_NUMBER);
        }
        int was = ledger.cutWeek[thing];
        ledger.cutWeek[thing] = week;
        return accept(was);
    }

    public int shorter(int one, int other) {
        if (!isKeeper(one) || !isKeeper(other) || one == other) {
            return refuse(BAD_NUMBER);
        }
        if (ledger.isShorter(one, other)) {
            return refuse(CANNOT_BE);
        }
        if (!ledger.hasRoomForShorter()) {
            return refuse(NO_ROOM);
        }
        ledger.addShorter(one, other);
        return accept(ledger.shorters());
    }

    public int entry(int thing, int week, int number, int kind) {
        if (!isEntry(thing, week, number, kind)) {
            return refuse(BAD_NUMBER);
        }
        if (!ledger.hasRoom()) {
            return refuse(NO_ROOM);
        }
        ledger.addEntry(thing, week, number, kind);
        return accept(ledger.entries - 1);
    }

    public int counts(int entry, int counts) {
        if (!within(entry, 0, ENTRIES - 1) || !within(counts, 0, 1)) {
            return refuse(BAD_NUMBER);
        }
        if (entry >= ledger.entries) {
            return refuse(NOT_THERE);
        }
        int was = ledger.isCounting(entry) ? 1 : 0;
        ledger.setCounting(entry, counts == 1);
        return accept(was);
    }

    public int of(int entry, int what) {
        if (!within(entry, 0, ledger.entries - 1)) {
            return NONE;
        }
        switch (what) {
            case 0: return ledger.thing[entry];
            case 1: return ledger.inWeek[entry];
            case 2: return ledger.number[entry];
            case 3: return ledger.kind[entry];
            case 4: return ledger.isCounting(entry) ? 1 : 0;
            case 5: return ledger.lengthOf(entry);
            default: return NONE;
        }
    }

    // ------------------------------------------------------------ the tape

    public int feed(int a, int b, int c, int d, int e) {
        if (tape.length + FED_AT_ONCE * BYTES_EACH > TAPE_BYTES) {
            return NONE;
        }
        tape.append(a);
        tape.append(b);
        tape.append(c);
        tape.append(d);
        tape.append(e);
        return tape.length;
    }

    public int end(int n) {
        if (!within(n, 0, tape.length)) {
            return NONE;
        }
        tape.length = n;
        return n;
    }

    public int row() {
        if (tape.length == 0) {
            return refuse(BAD_TEXT);
        }
        int before = ledger.entries;
        latestBlurred = 0;
        for (int at = 0; at < tape.length; at += BYTES_EACH) {
            if (!takeFromRow(at)) {
                latestBlurred++;
            }
        }
        tape.length = 0;
        return accept(ledger.entries - before);
    }

    public int blurred() {
        return latestBlurred;
    }

    public int book() {
        trial.copyFrom(ledger);
        int clauses = reader.readOnto(trial);
        latestFault = reader.faultPlace;
        tape.length = 0;
        if (clauses == NONE) {
            return refuse(BAD_TEXT);
        }
        ledger.copyFrom(trial);
        return accept(clauses);
    }

    public int fault() {
        return latestFault;
    }

    // ------------------------------------------------------------ what can be

    public int fits() {
        return canBe() ? 1 : 0;
    }

    public int between(int one, int other, int what) {
        if (!within(what, 0, 3) || !compare(one, other)) {
            return NOTHING;
        }
        switch (what) {
            case 0: return atMost(span.leastMillionths(), MOST_MILLIONTHS);
            case 1: return atMost(span.greatestMillionths(), MOST_MILLIONTHS);
            case 2: return span.least.open ? 0 : 1;
            default: return span.greatest.open ? 0 : 1;
        }
    }

    public int sure(int one, int other) {
        if (!compare(one, other)) {
            return NOTHING;
        }
        if (span.isAlways(1)) {
            return 3;
        }
        if (span.least.isBelowOne()) {
            return 1;
        }
        return span.greatest.isBelowOne() ? 2 : 0;
    }

    public int feet(int length, int keeper, int what) {
        if (!within(what, 0, 1) || !compareToFoot(length, keeper)) {
            return NOTHING;
        }
        return atMost(what == 0 ? span.leastNumber(WHOLE) : span.greatestNumber(WHOLE), MOST_FEET);
    }

    public long part(int one, int other, int what) {
        if (!within(what, 0, 1) || !compare(one, other)) {
            return NOTHING;
        }
        if (!span.isTheSame()) {
            return 0;
        }
        Bound only = span.greatest;
        return quotient(what == 0 ? only.top : only.low, commonDivisor(only.top, only.low));
    }

    public int lay(int one, int two, int three, int keeper, int what) {
        boolean all = isMeasured(one) && isMeasured(two) && (three == NONE || isMeasured(three));
        if (!all || !isKeeper(keeper) || !within(what, 0, 1) || !canBe()) {
            return NOTHING;
        }
        total.clear();
        addFeet(one, keeper, what);
        addFeet(two, keeper, what);
        if (three != NONE) {
            addFeet(three, keeper, what);
        }
        return atMost(total.sum(), MOST_LAID);
    }

    public int area(int one, int other, int keeper, int what) {
        boolean both = isMeasured(one) && isMeasured(other);
        if (!both || !isKeeper(keeper) || !within(what, 0, 1) || !canBe()) {
            return NOTHING;
        }
        total.clear();
        addFeet(one, keeper, what);
        addFeet(other, keeper, what);
        return atMost(total.product(), MOST_SQUARE_FEET);
    }

    public int would(int length, int keeper, int number, int kind) {
        if (!isNumber(number) || !isKind(kind) || !compareToFoot(length, keeper)) {
            return NOTHING;
        }
        if (!span.allows(number, kind)) {
            return 0;
        }
        return span.forces(number, kind) ? 1 : 2;
    }

    public int numbers(int length, int keeper, int kind, int what) {
        if (!isKind(kind) || !within(what, 0, 2) || !compareToFoot(length, keeper)) {
            return NOTHING;
        }
        int many = span.manyNumbers(kind);
        if (what == 0) {
            return many;
        }
        if (many == 0) {
            return NONE;
        }
        return what == 1 ? span.firstNumber(kind) : span.lastNumber(kind);
    }

    public int ask(int what) {
        if (!within(what, 0, 2) || !canBe()) {
            return NONE;
        }
        int most = NONE;
        int place = 0;
        for (int i = 0; i < TIES; i++) {
            int many = manyWholes(i / KEEPERS, i % KEEPERS);
            if (many > most) {
                most = many;
                place = i;
            }
        }
        if (what == 2) {
            return most;
        }
        return what == 0 ? place / KEEPERS : place % KEEPERS;
    }

    public int dates(int thing, int number, int kind, int what) {
        boolean asked = isThing(thing) && isNumber(number) && isKind(kind) && within(what, 0, 2);
        if (!asked || !canBe()) {
            return NOTHING;
        }
        int weeks = 0;
        for (int w = 0; w < WEEKS; w++) {
            if (couldBeTold(thing, w, number, kind)) {
                weeks |= 1 << w;
            }
        }
        return ofWeeks(weeks, what);
    }

    // ------------------------------------------------------------ what hangs together

    public int joined(int one, int other) {
        if (!ledger.isThere(one) || !ledger.isThere(other)) {
            return NOTHING;
        }
        bands.bind(ledger);
        return bands.areTogether(one, other) ? 1 : 0;
    }

    public int groups(int what) {
        if (!within(what, 0, 2)) {
            return NONE;
        }
        bands.bind(ledger);
        if (what == 2) {
            return bands.greatest(ledger);
        }
        return bands.many(ledger) - what;
    }

    // ------------------------------------------------------------ what is wrong, who and when

    public int core() {
        if (canBe()) {
            return 0;
        }
        if (!ties.canBe(ledger, 0)) {
            return NONE;
        }
        return doubt.leaveOut(ledger, ledger.counting);
    }

    public int wrong(int what) {
        if (!within(what, 0, 2) || !doubt.search(ledger)) {
            return NONE;
        }
        if (what == 0) {
            return doubt.fewest;
        }
        return what == 1 ? doubt.ways : doubt.lowest;
    }

    public int whose(int week) {
        if (week != NONE && !isWeek(week)) {
            return NONE;
        }
        trial.copyFrom(ledger);
        if (!seeking.seek(trial)) {
            return NONE;
        }
        return week == NONE ? seeking.ways : seeking.onlyKeeper(week);
    }

    public int could(int week, int keeper) {
        if (!isWeek(week) || !isKeeper(keeper)) {
            return NONE;
        }
        trial.copyFrom(ledger);
        if (!seeking.seek(trial)) {
            return NONE;
        }
        return seeking.waysWith(week, keeper);
    }

    public int when(int thing, int what) {
        if (!isThing(thing) || !within(what, 0, 2) || ledger.cutWeek[thing] != NONE) {
            return NONE;
        }
        trial.copyFrom(ledger);
        int weeks = 0;
        for (int w = 1; w < WEEKS; w++) {
            trial.cutWeek[thing] = w;
            if (ties.canBe(trial, trial.counting)) {
                weeks |= 1 << w;
            }
        }
        return ofWeeks(weeks, what);
    }

    // ------------------------------------------------------------ the told world, the year

    public int tell(int length, int value) {
        if (!within(length, 0, LENGTHS - 1) || !within(value, 1, LONGEST_TOLD)) {
            return refuse(BAD_NUMBER);
        }
        int was = ledger.world[length];
        ledger.world[length] = value;
        return accept(was);
    }

    public int says(int length, int keeper, int kind) {
        if (!within(length, 0, MEASURED - 1) || !isKeeper(keeper) || !isKind(kind)) {
            return NONE;
        }
        int foot = ledger.world[MEASURED + keeper];
        int told = ledger.world[length];
        switch (kind) {
            case EXACT: return (int) quotient(100L * told, foot);
            case WHOLE: return (int) quotient(told, foot);
            default: return (int) quotient(2L * told + foot, 2L * foot);
        }
    }

    public int judge(int what) {
        if (!within(what, 0, 2)) {
            return NONE;
        }
        int first = NONE;
        int many = 0;
        for (int e = ledger.entries - 1; e >= 0; e--) {
            if (ledger.isCounting(e) && !ledger.isSoByWorld(e)) {
                first = e;
                many++;
            }
        }
        if (what == 2) {
            return many == 0 && ledger.hasShortersByWorld() && ledger.hasCutsByWorld() ? 1 : 0;
        }
        return what == 0 ? first : many;
    }

    public int year(int seed, int thing, int price) {
        if (!within(seed, 0, LAST_SEED) || !isThing(thing) || !within(price, 1, LAST_PRICE)) {
            return refuse(BAD_NUMBER);
        }
        paper.draw(seed);
        return accept(price * paper.bestTrade(ledger, thing));
    }

    public int trade(int what) {
        if (!paper.isDrawn) {
            return NONE;
        }
        if (what == 0) {
            return paper.buying;
        }
        if (what == 1) {
            return paper.selling;
        }
        return within(what, 2, WEEKS + 1) ? paper.keeper[what - 2] : NONE;
    }

    public int told(int thing) {
        if (!paper.isDrawn || !isThing(thing)) {
            return NONE;
        }
        int sum = 0;
        for (int w = 0; w < WEEKS; w++) {
            sum += ledger.wholeFeet(ledger.lengthIn(thing, w), paper.keeper[w]);
        }
        return sum;
    }

    // ------------------------------------------------------------ images, counts

    public int image(int k) {
        if (!within(k, 0, IMAGES - 1)) {
            return refuse(BAD_NUMBER);
        }
        images[k].copyFrom(ledger);
        kept[k] = true;
        return accept(0);
    }

    public int back(int k) {
        if (!within(k, 0, IMAGES - 1)) {
            return refuse(BAD_NUMBER);
        }
        if (!kept[k]) {
            return refuse(NOT_THERE);
        }
        ledger.copyFrom(images[k]);
        return accept(0);
    }

    public int count(int what) {
        switch (what) {
            case 0: return ledger.entries;
            case 1: return Integer.bitCount(ledger.counting);
            case 2: return ledger.shorters();
            case 3: return manyKnown(ledger.keeper);
            case 4: return manyKnown(ledger.cutWeek);
            case 5: return tape.length;
            default: return within(what, 6, 5 + REASONS) ? refused[what - 6] : NONE;
        }
    }

    public int status() {
        return latestReason;
    }

    // ------------------------------------------------------------ helpers of the calls

    private int refuse(int reason) {
        latestReason = reason;
        // there is no reason -4
        int place = reason > NO_ROOM ? -reason - 1 : -reason - 2;
        if (within(place, 0, REASONS - 1)) {
            refused[place]++;
        }
        return reason;
    }

    private int accept(int answer) {
        latestReason = 0;
        return answer;
    }

    private boolean takeFromRow(int at) {
        if (at + BYTES_EACH > tape.length) {
            return false;
        }
        int thing = tape.bytes[at];
        int week = tape.bytes[at + 1];
        int number = tape.bytes[at + 2];
        int kind = tape.bytes[at + 3];
        if (!isEntry(thing, week, number, kind) || !ledger.hasRoom()) {
            return false;
        }
        ledger.addEntry(thing, week, number, kind);
        return true;
    }

    private boolean canBe() {
        return ties.canBe(ledger, ledger.counting);
    }

    /** Sets the span of one length through another; false, if there is NOTHING to tell. */
    private boolean compare(int one, int other) {
        if (!ledger.isThere(one) || !ledger.isThere(other) || !canBe()) {
            return false;
        }
        span.measure(ties, one, other);
        return true;
    }

    private boolean compareToFoot(int length, int keeper) {
        if (!isMeasured(length) || !isKeeper(keeper) || !canBe()) {
            return false;
        }
        span.measure(ties, length, MEASURED + keeper);
        return true;
    }

    private boolean isMeasured(int length) {
        return length < MEASURED && ledger.isThere(length);
    }

    /** Adds a length's least (what 0) or greatest by a keeper's foot to the total. */
    private void addFeet(int length, int keeper, int what) {
        span.measure(ties, length, MEASURED + keeper);
        if (what == 0) {
            // values that only come near to the least are above it: they have its wholes
            total.add(span.least.low, span.least.top, false);
        } else {
            total.add(span.greatest.top, span.greatest.low, span.greatest.open);
        }
    }

    /** Of a length that is not there none, fewer than of any other. */
    private int manyWholes(int length, int keeper) {
        if (!ledger.isThere(length)) {
            return NONE;
        }
        span.measure(ties, length, MEASURED + keeper);
        return span.manyNumbers(WHOLE);
    }

    private boolean couldBeTold(int thing, int week, int number, int kind) {
        int keeper = ledger.keeper[week];
        if (keeper == NONE) {
            return false;
        }
        span.measure(ties, ledger.lengthIn(thing, week), MEASURED + keeper);
        return span.allows(number, kind);
    }

    /** Of weeks as bits: how many (what 0), the first (1), the last (2). */
    private static int ofWeeks(int weeks, int what) {
        if (what == 0) {
            return Integer.bitCount(weeks);
        }
        int last = NONE;
        for (int w = 0; w < WEEKS; w++) {
            if (hasBit(weeks, w)) {
                last = w;
                if (what == 1) {
                    break;
                }
            }
        }
        return last;
    }

    private static boolean hasBit(int bits, int place) {
        return (bits >> place & 1) == 1;
    }

    private static int manyKnown(int[] row) {
        int many = 0;
        for (int i = 0; i < row.length; i++) {
            if (row[i] != NONE) {
                many++;
            }
        }
        return many;
    }

    private static boolean within(int value, int least, int most) {
        return value >= least && value <= most;
    }

    private static boolean isThing(int value) {
        return within(value, 0, THINGS - 1);
    }

    private static boolean isKeeper(int value) {
        return within(value, 0, KEEPERS - 1);
    }

    private static boolean isWeek(int value) {
        return within(value, 0, WEEKS - 1);
    }

    private static boolean isNumber(int value) {
        return within(value, 1, LAST_NUMBER);
    }

    private static boolean isKind(int value) {
        return within(value, EXACT, HALF);
    }

    private static boolean isEntry(int thing, int week, int number, int kind) {
        return isThing(thing) && isWeek(week) && isNumber(number) && isKind(kind);
    }

    private static int atMost(long value, long most) {
        return (int) Math.min(value, most);
    }

    private static long quotient(long top, long low) {
        return low == 0 ? 0 : top / low;
    }

    private static long remainder(long top, long low) {
        return low == 0 ? 0 : top % low;
    }

    private static long commonDivisor(long one, long other) {
        long a = one;
        long b = other;
        // Euclid's steps on longs are fewer than a hundred
        for (int i = 0; i < 200 && b != 0; i++) {
            long rest = a % b;
            a = b;
            b = rest;
        }
        return a;
    }

    /** Whether top / low is below (-1), alike (0), above (1) the other; none of it is below 0. */
    private static int compareFractions(long top, long low, long otherTop, long otherLow) {
        long a = top;
        long b = low;
        long c = otherTop;
        long d = otherLow;
        int sign = 1;
        // quotient by quotient, as in Euclid's steps, so that no product can leave a long
        for (int i = 0; i < 200 && b > 0 && d > 0; i++) {
            int order = Long.compare(a / b, c / d);
            long rest = a % b;
            long otherRest = c % d;
            if (order != 0) {
                return sign * order;
            }
            if (rest == 0 || otherRest == 0) {
                return sign * Long.compare(rest, otherRest);
            }
            // both rests are below 1: what is less turned over is more
            a = b;
            c = d;
            b = rest;
            d = otherRest;
            sign = -sign;
        }
        return 0;
    }

    // ------------------------------------------------------------ all that images keep

    private static final class Ledger {
        final int[] keeper = new int[WEEKS];
        final int[] cutWeek = new int[THINGS];
        final int[] thing = new int[ENTRIES];
        final int[] inWeek = new int[ENTRIES];
        final int[] number = new int[ENTRIES];
        final int[] kind = new int[ENTRIES];
        final int[] world = new int[LENGTHS];
        int entries;
        // bits: the entries that count, the pairs of keepers of whom the first is shorter
        int counting;
        int below;

        Ledger() {
            Arrays.fill(keeper, NONE);
            Arrays.fill(cutWeek, NONE);
            Arrays.fill(world, FIRST_TOLD);
        }

        void copyFrom(Ledger other) {
            System.arraycopy(other.keeper, 0, keeper, 0, WEEKS);
            System.arraycopy(other.cutWeek, 0, cutWeek, 0, THINGS);
            System.arraycopy(other.thing, 0, thing, 0, ENTRIES);
            System.arraycopy(other.inWeek, 0, inWeek, 0, ENTRIES);
            System.arraycopy(other.number, 0, number, 0, ENTRIES);
            System.arraycopy(other.kind, 0, kind, 0, ENTRIES);
            System.arraycopy(other.world, 0, world, 0, LENGTHS);
            entries = other.entries;
            counting = other.counting;
            below = other.below;
        }

        boolean hasRoom() {
            return entries < ENTRIES;
        }

        void addEntry(int aThing, int aWeek, int aNumber, int aKind) {
            if (!hasRoom()) {
                return;
            }
            thing[entries] = aThing;
            inWeek[entries] = aWeek;
            number[entries] = aNumber;
            kind[entries] = aKind;
            counting |= 1 << entries;
            entries++;
        }

        boolean isCounting(int entry) {
            return hasBit(counting, entry);
        }

        void setCounting(int entry, boolean counts) {
            int bit = 1 << entry;
            counting = counts ? counting | bit : counting & ~bit;
        }

        boolean isShorter(int one, int other) {
            return hasBit(below, one * KEEPERS + other);
        }

        int shorters() {
            return Integer.bitCount(below);
        }

        boolean hasRoomForShorter() {
            return shorters() < SHORTERS;
        }

        void addShorter(int one, int other) {
            below |= 1 << one * KEEPERS + other;
        }

        boolean isThere(int length) {
            if (!within(length, 0, LENGTHS - 1)) {
                return false;
            }
            boolean isCutOne = length >= THINGS && length < MEASURED;
            return !isCutOne || cutWeek[length - THINGS] != NONE;
        }

        int lengthIn(int aThing, int week) {
            int cut = cutWeek[aThing];
            return cut != NONE && week >= cut ? aThing + THINGS : aThing;
        }

        int lengthOf(int entry) {
            return lengthIn(thing[entry], inWeek[entry]);
        }

        int keeperOf(int entry) {
            return keeper[inWeek[entry]];
        }

        /** Twice the least number of feet that an entry allows. */
        int leastHalves(int entry) {
            return 2 * number[entry] - (kind[entry] == HALF ? 1 : 0);
        }

        /** Twice the end of the feet that an entry allows, which it reaches if it is exact. */
        int endHalves(int entry) {
            if (kind[entry] == EXACT) {
                return 2 * number[entry];
            }
            return leastHalves(entry) + 2;
        }

        int wholeFeet(int length, int aKeeper) {
            return (int) quotient(world[length], world[MEASURED + aKeeper]);
        }

        /** Where the keeper is not known, an entry tells nothing that could be otherwise. */
        boolean isSoByWorld(int entry) {
            int aKeeper = keeperOf(entry);
            if (aKeeper == NONE) {
                return true;
            }
            int foot = world[MEASURED + aKeeper];
            int halves = 2 * world[lengthOf(entry)];
            int least = leastHalves(entry) * foot;
            int end = endHalves(entry) * foot;
            return kind[entry] == EXACT ? halves == end : halves >= least && halves < end;
        }

        boolean hasShortersByWorld() {
            for (int p = 0; p < PAIRS; p++) {
                int one = world[MEASURED + p / KEEPERS];
                int other = world[MEASURED + p % KEEPERS];
                if (hasBit(below, p) && one >= other) {
                    return false;
                }
            }
            return true;
        }

        boolean hasCutsByWorld() {
            for (int t = 0; t < THINGS; t++) {
                if (cutWeek[t] != NONE && world[t + THINGS] > world[t]) {
                    return false;
                }
            }
            return true;
        }
    }

    // ------------------------------------------------------------ the tape and its books

    private static final class Tape {
        final int[] bytes = new int[TAPE_BYTES];
        int length;

        void append(int four) {
            if (length + BYTES_EACH > TAPE_BYTES) {
                return;
            }
            bytes[length] = four >>> 24;
            bytes[length + 1] = four >>> 16 & 255;
            bytes[length + 2] = four >>> 8 & 255;
            bytes[length + 3] = four & 255;
            length += BYTES_EACH;
        }
    }

    /** Reads a book's tokens one by one and tells its clauses to a ledger. */
    private static final class BookReader {
        private static final int BLANK = 32;
        private static final int OTHER = 0;
        private static final int LETTER = 1;
        private static final int DIGIT = 2;
        private static final int TOO_MUCH = 1000;

        private final Tape tape;
        private int start;
        private int end;
        int faultPlace;

        BookReader(Tape tape) {
            this.tape = tape;
            faultPlace = NONE;
        }

        /** How many clauses were told; NONE, if there is a fault, and then its place is kept. */
        int readOnto(Ledger into) {
            faultPlace = NONE;
            end = 0;
            advance();
            for (int clauses = 1; clauses <= TAPE_BYTES; clauses++) {
                boolean isRead;
                if (take("week")) {
                    isRead = readWeeks(into);
                } else if (take("thing")) {
                    isRead = readThing(into);
                } else {
                    isRead = readShorter(into);
                }
                if (isRead && start >= tape.length) {
                    return clauses;
                }
                if (!isRead || !take(";")) {
                    break;
                }
            }
            if (faultPlace == NONE) {
                faultPlace = start;
            }
            return NONE;
        }

        private boolean readWeeks(Ledger into) {
            int first = takeNumber(0, WEEKS - 1);
            if (first == NONE) {
                return false;
            }
            int last = take("to") ? takeNumber(first, WEEKS - 1) : first;
            if (last == NONE || !take("by")) {
                return false;
            }
            boolean nobody = take("nobody");
            int keeper = nobody ? NONE : takeNumber(0, KEEPERS - 1);
            if (keeper == NONE && !nobody) {
                return false;
            }
            for (int w = first; w <= last; w++) {
                into.keeper[w] = keeper;
            }
            return true;
        }

        private boolean readShorter(Ledger into) {
            int place = start;
            int one = take("keeper") ? takeNumber(0, KEEPERS - 1) : NONE;
            if (one == NONE || !take("below") || value() == one) {
                return false;
            }
            int other = takeNumber(0, KEEPERS - 1);
            if (other == NONE) {
                return false;
            }
            if (into.isShorter(one, other)) {
                return true;
            }
            if (!into.hasRoomForShorter()) {
                faultPlace = place;
                return false;
            }
            into.addShorter(one, other);
            return true;
        }

        private boolean readThing(Ledger into) {
            int thing = takeNumber(0, THINGS - 1);
            if (thing == NONE) {
                return false;
            }
            if (take("cut")) {
                return readCut(into, thing);
            }
            for (int i = 0; i <= ENTRIES; i++) {
                if (!readMeasure(into, thing)) {
                    return false;
                }
                if (!take(",")) {
                    return true;
                }
            }
            return false;
        }

        private boolean readCut(Ledger into, int thing) {
            if (take("never")) {
                into.cutWeek[thing] = NONE;
                return true;
            }
            int week = take("in") ? takeNumber(1, WEEKS - 1) : NONE;
            if (week == NONE) {
                return false;
            }
            into.cutWeek[thing] = week;
            return true;
        }

        private boolean readMeasure(Ledger into, int thing) {
            if (!into.hasRoom() || !take("in")) {
                return false;
            }
            int week = takeNumber(0, WEEKS - 1);
            if (week == NONE || !take("is")) {
                return false;
            }
            int number = takeNumber(1, LAST_NUMBER);
            if (number == NONE) {
                return false;
            }
            int kind = EXACT;
            if (take("whole")) {
                kind = WHOLE;
            } else if (take("half")) {
                kind = HALF;
            } else {
                take("exact");
            }
            into.addEntry(thing, week, number, kind);
            return true;
        }

        private boolean take(String word) {
            if (!stands(word)) {
                return false;
            }
            advance();
            return true;
        }

        private boolean stands(String word) {
            if (end - start != word.length()) {
                return false;
            }
            for (int i = 0; i < word.length(); i++) {
                if (tape.bytes[start + i] != word.charAt(i)) {
                    return false;
                }
            }
            return true;
        }

        private int takeNumber(int least, int most) {
            int number = value();
            if (!within(number, least, most)) {
                return NONE;
            }
            advance();
            return number;
        }

        /** What the token's digits tell, NONE if they are no digits. */
        private int value() {
            if (start >= tape.length || familyOf(tape.bytes[start]) != DIGIT) {
                return NONE;
            }
            int sum = 0;
            for (int i = start; i < end; i++) {
                sum = Math.min(TOO_MUCH, 10 * sum + tape.bytes[i] - '0');
            }
            return sum;
        }

        private void advance() {
            start = end;
            while (start < tape.length && tape.bytes[start] == BLANK) {
                start++;
            }
            end = start;
            if (start >= tape.length) {
                return;
            }
            int family = familyOf(tape.bytes[start]);
            end++;
            while (family != OTHER && end < tape.length && familyOf(tape.bytes[end]) == family) {
                end++;
            }
        }

        private static int familyOf(int sign) {
            if (sign >= 'a' && sign <= 'z') {
                return LETTER;
            }
            return sign >= '0' && sign <= '9' ? DIGIT : OTHER;
        }
    }

    // ------------------------------------------------------------ limits between lengths

    /** What a ratio can't go above: top / low, itself left out if it is open; without low none. */
    private static final class Bound {
        long top;
        long low;
        boolean open;

        void clear() {
            top = 1;
            low = 0;
            open = true;
        }

        void put(long aTop, long aLow, boolean isOpen) {
            top = aTop;
            low = aLow;
            open = isOpen;
        }

        /** Takes the other limit, if it leaves less. */
        void lessen(long otherTop, long otherLow, boolean otherOpen) {
            long mine = top * otherLow;
            long others = otherTop * low;
            if (others < mine || (others == mine && otherOpen)) {
                put(otherTop, otherLow, otherOpen);
            }
        }

        boolean isBelowOne() {
            return low != 0 && (top < low || (top == low && open));
        }

        /** Whether a ratio within this limit can't be turned round within the other. */
        boolean contradicts(Bound other) {
            long tops = top * other.top;
            long lows = low * other.low;
            return tops < lows || (tops == lows && (open || other.open));
        }
    }

    private static Bound[] newBounds(int many) {
        Bound[] row = new Bound[Math.max(0, many)];
        for (int i = 0; i < row.length; i++) {
            row[i] = new Bound();
        }
        return row;
    }

    /** What the entries, shorters and cuts of a ledger leave open between any two lengths. */
    private static final class Ties {
        // of a length by a keeper, in half feet; 0: there is none
        private final int[] high = new int[TIES];
        private final boolean[] highOpen = new boolean[TIES];
        private final int[] low = new int[TIES];
        // of a foot through another: by one thing, by two, by up to three
        private final Bound[] step = newBounds(PAIRS);
        private final Bound[] twoSteps = newBounds(PAIRS);
        private final Bound[] reach = newBounds(PAIRS);

        /** Whether the entries (as bits) can be together; the limits stand then. */
        boolean canBe(Ledger book, int entries) {
            forget();
            for (int e = 0; e < book.entries; e++) {
                if (hasBit(entries, e)) {
                    tie(book, e);
                }
            }
            for (int t = 0; t < THINGS; t++) {
                if (book.cutWeek[t] != NONE) {
                    tieCut(t);
                }
            }
            for (int length = 0; length < MEASURED; length++) {
                stepOver(length);
            }
            for (int p = 0; p < PAIRS; p++) {
                if (hasBit(book.below, p)) {
                    step[p].lessen(1, 1, true);
                }
            }
            if (!eachFootHolds()) {
                return false;
            }
            goOn(step, twoSteps);
            goOn(twoSteps, reach);
            return feetHoldTogether();
        }

        private void forget() {
            Arrays.fill(high, 0);
            Arrays.fill(low, 0);
            for (int p = 0; p < PAIRS; p++) {
                step[p].clear();
            }
        }

        private void tie(Ledger book, int entry) {
            int keeper = book.keeperOf(entry);
            if (keeper == NONE) {
                return;
            }
            int place = book.lengthOf(entry) * KEEPERS + keeper;
            lower(place, book.endHalves(entry), book.kind[entry] != EXACT);
            low[place] = Math.max(low[place], book.leastHalves(entry));
        }

        private void lower(int place, int end, boolean open) {
            if (high[place] == 0 || end < high[place]) {
                high[place] = end;
                highOpen[place] = open;
            } else if (end == high[place] && open) {
                highOpen[place] = true;
            }
        }

        /** What is cut is below all that the whole was, and the whole above all that it is. */
        private void tieCut(int thing) {
            for (int k = 0; k < KEEPERS; k++) {
                int whole = thing * KEEPERS + k;
                int rest = (thing + THINGS) * KEEPERS + k;
                if (high[whole] != 0) {
                    lower(rest, high[whole], highOpen[whole]);
                }
                low[whole] = Math.max(low[whole], low[rest]);
            }
        }

        /** One foot is not more often in a length than it may be; so feet are limited by it. */
        private void stepOver(int length) {
            int row = length * KEEPERS;
            for (int one = 0; one < KEEPERS; one++) {
                if (low[row + one] == 0) {
                    continue;
                }
                for (int other = 0; other < KEEPERS; other++) {
                    if (high[row + other] != 0) {
                        step[one * KEEPERS + other].lessen(
                                high[row + other], low[row + one], highOpen[row + other]);
                    }
                }
            }
        }

        private boolean eachFootHolds() {
            for (int k = 0; k < KEEPERS; k++) {
                if (step[k * KEEPERS + k].isBelowOne()) {
                    return false;
                }
            }
            return true;
        }

        /** Any round of four feet that leads below itself shows between two of them. */
        private boolean feetHoldTogether() {
            for (int one = 0; one < KEEPERS; one++) {
                for (int other = 0; other < one; other++) {
                    Bound there = reach[one * KEEPERS + other];
                    if (there.contradicts(reach[other * KEEPERS + one])) {
                        return false;
                    }
                }
            }
            return true;
        }

        /** The ways in one row, with a step more where that leaves less. */
        private void goOn(Bound[] ways, Bound[] further) {
            for (int p = 0; p < PAIRS; p++) {
                int one = p / KEEPERS;
                int other = p % KEEPERS;
                if (one == other) {
                    further[p].put(1, 1, false);
                    continue;
                }
                further[p].put(ways[p].top, ways[p].low, ways[p].open);
                for (int k = 0; k < KEEPERS; k++) {
                    Bound way = ways[one * KEEPERS + k];
                    Bound last = step[k * KEEPERS + other];
                    if (k != one && k != other && way.low != 0 && last.low != 0) {
                        further[p].lessen(way.top * last.top, way.low * last.low, way.open || last.open);
                    }
                }
            }
        }

        /** The most that one length can be through another. */
        void limit(int one, int other, Bound result) {
            boolean isCutOfOther = other < THINGS && one == other + THINGS;
            if (one == other || isCutOfOther) {
                result.put(1, 1, false);
            } else {
                result.clear();
            }
            if (one == other) {
                return;
            }
            for (int p = 0; p < PAIRS; p++) {
                limitBy(one, other, p, result);
            }
        }

        /** By the way over two feet: the one's first one, the other's last one. */
        private void limitBy(int one, int other, int pair, Bound result) {
            Bound way = reach[pair];
            int first = pair / KEEPERS;
            int last = pair % KEEPERS;
            long top = highOf(one, first);
            long bottom = lowOf(other, last);
            if (top == 0 || bottom == 0 || way.low == 0) {
                return;
            }
            boolean open = way.open || (one < MEASURED && highOpen[one * KEEPERS + first]);
            top *= way.top * halvesIn(one, other);
            bottom *= way.low * halvesIn(other, one);
            result.lessen(top, bottom, open);
        }

        private int highOf(int length, int keeper) {
            if (length >= MEASURED) {
                return length - MEASURED == keeper ? 1 : 0;
            }
            return high[length * KEEPERS + keeper];
        }

        private int lowOf(int length, int keeper) {
            if (length >= MEASURED) {
                return length - MEASURED == keeper ? 1 : 0;
            }
            return low[length * KEEPERS + keeper];
        }

        /** Half feet on one side alone must be made whole on the other; on both they go out. */
        private static int halvesIn(int foot, int length) {
            return foot >= MEASURED && length < MEASURED ? 2 : 1;
        }
    }

    /** What one length is through another one: at least 1 / least, at most greatest. */
    private static final class Span {
        final Bound least = new Bound();
        final Bound greatest = new Bound();

        void measure(Ties ties, int one, int other) {
            ties.limit(one, other, greatest);
            ties.limit(other, one, least);
        }

        long leastMillionths() {
            return quotient(MILLION * least.low, least.top);
        }

        long greatestMillionths() {
            return greatest.low == 0 ? NONE : quotient(MILLION * greatest.top, greatest.low);
        }

        boolean isTheSame() {
            return greatest.top * least.top == greatest.low * least.low;
        }

        boolean isAlways(long number) {
            return greatest.top == number * greatest.low && least.low == number * least.top;
        }

        /** The least number of a kind that could be told, below 1 too. */
        long leastNumber(int kind) {
            if (kind == HALF) {
                return quotient(2 * least.low + least.top, 2 * least.top);
            }
            long wholes = quotient(least.low, least.top);
            boolean isOver = least.open || wholes * least.top != least.low;
            return kind == EXACT && isOver ? wholes + 1 : wholes;
        }

        /** The greatest number of a kind that could be told, above 99 too; NONE without bound. */
        long greatestNumber(int kind) {
            if (greatest.low == 0) {
                return NONE;
            }
            long top = kind == HALF ? 2 * greatest.top + greatest.low : greatest.top;
            long low = kind == HALF ? 2 * greatest.low : greatest.low;
            long wholes = quotient(top, low);
            return greatest.open && wholes * low == top ? wholes - 1 : wholes;
        }

        int firstNumber(int kind) {
            return (int) Math.min(LAST_NUMBER + 1, Math.max(1, leastNumber(kind)));
        }

        int lastNumber(int kind) {
            return greatest.low == 0 ? LAST_NUMBER : atMost(greatestNumber(kind), LAST_NUMBER);
        }

        int manyNumbers(int kind) {
            return Math.max(0, lastNumber(kind) - firstNumber(kind) + 1);
        }

        boolean allows(int number, int kind) {
            return number >= firstNumber(kind) && number <= lastNumber(kind);
        }

        boolean forces(int number, int kind) {
            if (kind == EXACT) {
                return isAlways(number);
            }
            return leastNumber(kind) == number && greatestNumber(kind) == number;
        }
    }

    /** Two or three numbers of feet, added or multiplied exactly. */
    private static final class Total {
        private final long[] top = new long[LAID];
        private final long[] low = new long[LAID];
        private int size;
        private boolean open;
        private boolean unbounded;

        void clear() {
            for (int i = 0; i < LAID; i++) {
                top[i] = 0;
                low[i] = 1;
            }
            size = 0;
            open = false;
            unbounded = false;
        }

        void add(long aTop, long aLow, boolean isOpen) {
            if (aLow == 0) {
                unbounded = true;
            } else if (size < LAID) {
                top[size] = aTop;
                low[size] = aLow;
                open = open || isOpen;
                size++;
            }
        }

        /** The wholes in the sum, which is only come near to if it is open; NONE without bound. */
        long sum() {
            if (unbounded) {
                return NONE;
            }
            long wholes = 0;
            for (int i = 0; i < LAID; i++) {
                wholes += quotient(top[i], low[i]);
            }
            long rests = remainder(top[0], low[0]) * low[1] + remainder(top[1], low[1]) * low[0];
            long lows = low[0] * low[1];
            wholes += quotient(rests, lows);
            long rest = remainder(rests, lows);
            long lastRest = remainder(top[2], low[2]);
            int order = compareFractions(rest, lows, low[2] - lastRest, low[2]);
            boolean isWhole = order == 0 || (rest == 0 && lastRest == 0);
            wholes += order >= 0 ? 1 : 0;
            return open && isWhole ? wholes - 1 : wholes;
        }

        /** The wholes in the first two's product, as in the sum. */
        long product() {
            if (unbounded) {
                return NONE;
            }
            long tops = top[0] * top[1];
            long lows = low[0] * low[1];
            long wholes = quotient(tops, lows);
            return open && wholes * lows == tops ? wholes - 1 : wholes;
        }
    }

    // ------------------------------------------------------------ groups

    /** Which lengths hang together: those of one band bear its lowest number. */
    private static final class Bands {
        private final int[] band = new int[LENGTHS];

        void bind(Ledger book) {
            for (int i = 0; i < LENGTHS; i++) {
                band[i] = i;
            }
            for (int e = 0; e < book.entries; e++) {
                int keeper = book.keeperOf(e);
                // the document's words: an entry ties, whether it counts or is struck
                if (keeper != NONE) {
                    unite(book.lengthOf(e), MEASURED + keeper);
                }
            }
            for (int p = 0; p < PAIRS; p++) {
                if (hasBit(book.below, p)) {
                    unite(MEASURED + p / KEEPERS, MEASURED + p % KEEPERS);
                }
            }
            for (int t = 0; t < THINGS; t++) {
                if (book.cutWeek[t] != NONE) {
                    unite(t, t + THINGS);
                }
            }
        }

        private void unite(int one, int other) {
            int stays = Math.min(band[one], band[other]);
            int goes = Math.max(band[one], band[other]);
            for (int i = 0; i < LENGTHS; i++) {
                if (band[i] == goes) {
                    band[i] = stays;
                }
            }
        }

        boolean areTogether(int one, int other) {
            return band[one] == band[other];
        }

        int many(Ledger book) {
            int sum = 0;
            for (int i = 0; i < LENGTHS; i++) {
                if (band[i] == i && book.isThere(i)) {
                    sum++;
                }
            }
            return sum;
        }

        int greatest(Ledger book) {
            int most = 0;
            for (int i = 0; i < LENGTHS; i++) {
                most = Math.max(most, sizeOf(i, book));
            }
            return most;
        }

        private int sizeOf(int aBand, Ledger book) {
            int sum = 0;
            for (int i = 0; i < LENGTHS; i++) {
                if (band[i] == aBand && book.isThere(i)) {
                    sum++;
                }
            }
            return sum;
        }
    }

    // ------------------------------------------------------------ core and wrong ones

    private static final class Doubt {
        private final Ties ties;
        int fewest;
        int ways;
        int lowest;

        Doubt(Ties ties) {
            this.ties = ties;
        }

        /** Of entries that can't be together those that are left, when none can go any more. */
        int leaveOut(Ledger book, int entries) {
            int left = entries;
            for (int e = 0; e < ENTRIES; e++) {
                int without = left & ~(1 << e);
                if (without != left && !ties.canBe(book, without)) {
                    left = without;
                }
            }
            return left;
        }

        /** Whether striking two or fewer is enough. */
        boolean search(Ledger book) {
            fewest = 0;
            ways = 1;
            lowest = 0;
            if (ties.canBe(book, book.counting)) {
                return true;
            }
            ways = 0;
            // whatever is struck, one of these must be among it
            int core = leaveOut(book, book.counting);
            fewest = 1;
            for (int e = 0; e < ENTRIES; e++) {
                if (hasBit(core, e)) {
                    strike(book, 1 << e);
                }
            }
            if (ways > 0) {
                return true;
            }
            fewest = 2;
            for (int p = 0; p < ENTRIES * ENTRIES; p++) {
                int one = p / ENTRIES;
                int other = p % ENTRIES;
                // a pair of two of the core is tried from its lower one alone
                boolean isTried = other == one || (hasBit(core, other) && other < one);
                if (hasBit(core, one) && book.isCounting(other) && !isTried) {
                    strike(book, 1 << one | 1 << other);
                }
            }
            return ways > 0;
        }

        private void strike(Ledger book, int entries) {
            if (ties.canBe(book, book.counting & ~entries)) {
                ways++;
                lowest = lowest == 0 ? entries : Math.min(lowest, entries);
            }
        }
    }

    // ------------------------------------------------------------ who kept the gate

    private static final class Seeking {
        private final Ties ties;
        private final int[] weeks = new int[SOUGHT];
        private final int[] waysOf = new int[SOUGHT * KEEPERS];
        private int sought;
        int ways;

        Seeking(Ties ties) {
            this.ties = ties;
        }

        /** Tries all keepers, on a ledger that it may change; false, if the weeks are too many. */
        boolean seek(Ledger book) {
            ways = 0;
            Arrays.fill(waysOf, 0);
            if (!gather(book)) {
                return false;
            }
            int all = 1 << 2 * sought;
            for (int way = 0; way < all; way++) {
                for (int i = 0; i < sought; i++) {
                    book.keeper[weeks[i]] = keeperBy(way, i);
                }
                if (ties.canBe(book, book.counting)) {
                    note(way);
                }
            }
            return true;
        }

        private static int keeperBy(int way, int place) {
            return way >> 2 * place & 3;
        }

        private boolean gather(Ledger book) {
            sought = 0;
            for (int w = 0; w < WEEKS; w++) {
                if (book.keeper[w] != NONE || !hasEntry(book, w)) {
                    continue;
                }
                if (sought >= SOUGHT) {
                    return false;
                }
                weeks[sought] = w;
                sought++;
            }
            return true;
        }

        private static boolean hasEntry(Ledger book, int week) {
            for (int e = 0; e < book.entries; e++) {
                if (book.inWeek[e] == week && book.isCounting(e)) {
                    return true;
                }
            }
            return false;
        }

        private void note(int way) {
            ways++;
            for (int i = 0; i < sought; i++) {
                waysOf[i * KEEPERS + keeperBy(way, i)]++;
            }
        }

        private int placeOf(int week) {
            for (int i = 0; i < sought; i++) {
                if (weeks[i] == week) {
                    return i;
                }
            }
            return NONE;
        }

        int waysWith(int week, int keeper) {
            int place = placeOf(week);
            return place == NONE ? NONE : waysOf[place * KEEPERS + keeper];
        }

        int onlyKeeper(int week) {
            if (placeOf(week) == NONE || ways == 0) {
                return NONE;
            }
            for (int k = 0; k < KEEPERS; k++) {
                if (waysWith(week, k) == ways) {
                    return k;
                }
            }
            return NOT_SURE;
        }
    }

    // ------------------------------------------------------------ the year on paper

    private static final class Paper {
        private static final int FACTOR = 1103;
        private static final int ADDEND = 12345;
        private static final int MODULUS = 1000003;

        final int[] keeper = new int[WEEKS];
        boolean isDrawn;
        int buying;
        int selling;

        void draw(int seed) {
            int s = seed;
            for (int w = 0; w < WEEKS; w++) {
                s = (s * FACTOR + ADDEND) % MODULUS;
                keeper[w] = s % KEEPERS;
            }
            isDrawn = true;
        }

        /** How many feet more are sold than bought at best; the weeks of it are kept. */
        int bestTrade(Ledger book, int thing) {
            int most = 0;
            buying = NONE;
            selling = NONE;
            for (int buy = 0; buy < WEEKS; buy++) {
                int bought = book.wholeFeet(thing, keeper[buy]);
                for (int sell = buy + 1; sell < WEEKS; sell++) {
                    int more = book.wholeFeet(thing, keeper[sell]) - bought;
                    if (more > most) {
                        most = more;
                        buying = buy;
                        selling = sell;
                    }
                }
            }
            return most;
        }
    }
}
