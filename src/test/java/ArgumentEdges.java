/**
 * Every number of every call at its edges: the last value that is taken and the first that is
 * not, on either side, and the least and the greatest int.
 */
public final class ArgumentEdges extends Desk {
    public static void main(String[] args) {
        whatIsWritten();
        shortersAndEntries();
        toldAndYears();
        images();
        looksAtEntriesAndTape();
        lengthsBesideLengths();
        wholeFeet();
        laidAndAreas();
        oneMoreEntry();
        numbersOfAKind();
        nextToAsk();
        datesOfANumber();
        whatHangsTogether();
        whatIsWrong();
        whoAndWhen();
        theToldWorld();
        theLatestYear();
        countsOfAll();
        finish();
    }

    // ------------------------------------------------------------ calls that can be refused

    private static void whatIsWritten() {
        at("promise 2, WEEKS 0 .. 31");
        taken("week(v, 0)", WeekFoot::new, (x, v) -> x.week(v, 0), 0, 31);
        at("promise 2, KEEPERS 0 .. 3, or NONE");
        taken("week(0, v)", WeekFoot::new, (x, v) -> x.week(0, v), NONE, 3);
        at("promise 3, THINGS 0 .. 5");
        taken("cut(v, 1)", WeekFoot::new, (x, v) -> x.cut(v, 1), 0, 5);
        at("promise 3, a WEEK 1 .. 31");
        taken("cut(0, v)", WeekFoot::new, (x, v) -> x.cut(0, v), 1, 31);
        at("promise 3, NONE: not");
        WeekFoot x = new WeekFoot();
        x.cut(0, 1);
        due("cut(0, NONE)", x.cut(0, NONE), 1);
        dueReason("cut(0, NONE)", x, 0);
        due("cut(0, -2)", x.cut(0, -2), -1);
        dueReason("cut(0, -2)", x, -1);
    }

    private static void shortersAndEntries() {
        at("promise 4, KEEPERS 0 .. 3");
        taken("shorter(v, 1)", WeekFoot::new, (x, v) -> x.shorter(v, 1), 0, 3);
        taken("shorter(1, v)", WeekFoot::new, (x, v) -> x.shorter(1, v), 0, 3);
        at("promise 4, the same one, too");
        for (int k = 0; k < 4; k++) {
            WeekFoot x = new WeekFoot();
            due("the same " + k, x.shorter(k, k), -1);
            dueReason("the same " + k, x, -1);
        }
        at("promise 5, THINGS 0 .. 5");
        taken("entry(v, 0, 1, 0)", WeekFoot::new, (x, v) -> x.entry(v, 0, 1, 0), 0, 5);
        at("promise 5, WEEKS 0 .. 31");
        taken("entry(0, v, 1, 0)", WeekFoot::new, (x, v) -> x.entry(0, v, 1, 0), 0, 31);
        at("promise 5, a NUMBER 1 .. 99");
        taken("entry(0, 0, v, 0)", WeekFoot::new, (x, v) -> x.entry(0, 0, v, 0), 1, 99);
        at("promise 5, KINDS 0 .. 2");
        taken("entry(0, 0, 1, v)", WeekFoot::new, (x, v) -> x.entry(0, 0, 1, v), 0, 2);
        at("promise 6, ENTRIES, 24 at most");
        taken("counts(v, 1)", () -> withEntries(24), (x, v) -> x.counts(v, 1), 0, 23);
        at("promise 6, COUNTS (1) or is STRUCK (0)");
        taken("counts(0, v)", () -> withEntries(1), (x, v) -> x.counts(0, v), 0, 1);
    }

    private static void toldAndYears() {
        at("promise 32, a LENGTH 0 .. 15");
        taken("tell(v, 1)", WeekFoot::new, (x, v) -> x.tell(v, 1), 0, 15);
        at("promise 32, 1 .. 9,999 each");
        taken("tell(0, v)", WeekFoot::new, (x, v) -> x.tell(0, v), 1, 9999);
        at("promise 35, the SEED 0 .. 1,000,000");
        taken("year(v, 0, 1)", WeekFoot::new, (x, v) -> x.year(v, 0, 1), 0, 1000000);
        at("promise 35, THINGS 0 .. 5");
        taken("year(0, v, 1)", WeekFoot::new, (x, v) -> x.year(0, v, 1), 0, 5);
        at("promise 35, a price 1 .. 99");
        taken("year(0, 0, v)", WeekFoot::new, (x, v) -> x.year(0, 0, v), 1, 99);
    }

    private static WeekFoot withImages() {
        WeekFoot x = new WeekFoot();
        x.image(0);
        x.image(1);
        return x;
    }

    private static void images() {
        at("promise 38, IMAGES 0, 1");
        taken("image(v)", WeekFoot::new, (x, v) -> x.image(v), 0, 1);
        at("promise 39, IMAGES 0, 1");
        taken("back(v)", ArgumentEdges::withImages, (x, v) -> x.back(v), 0, 1);
    }

    // ------------------------------------------------------------ questions

    private static void looksAtEntriesAndTape() {
        at("promise 7, an ENTRY that there is");
        WeekFoot x = withEntries(24);
        answered("of(v, 2)", v -> x.of(v, 2), to(0, 1), to(23, 24), NONE);
        WeekFoot one = withEntries(1);
        answered("of(v, 2) with one", v -> one.of(v, 2), to(0, 1), to(0, 1), NONE);
        at("promise 7, what 0 .. 5");
        answered("of(7, v)", v -> x.of(7, v), to(0, 1), to(5, 1), NONE);
        at("promise 9, NONE, if it has not so many, or n is below 0");
        answered("end(v) of 20", ArgumentEdges::endOfTwenty, to(0, 0), to(20, 20), NONE);
    }

    private static long endOfTwenty(int n) {
        WeekFoot x = new WeekFoot();
        x.feed(0, 0, 0, 0, 0);
        return x.end(n);
    }

    /**
     * All 16 lengths are there. Thing 0 is 7 feet of keepers 0 and 3, the rest of thing 5 is
     * 4 of them; nothing is known of keepers 1 and 2 but a week each.
     */
    private static WeekFoot rich() {
        return written("week 0 by 0;week 1 by 1;week 2 by 2;week 3 by 3;week 31 by 3;"
                + "thing 0 cut in 10;thing 1 cut in 10;thing 2 cut in 10;thing 3 cut in 10;"
                + "thing 4 cut in 10;thing 5 cut in 10;thing 0 in 0 is 7,in 3 is 7;thing 5 in 31 is 4");
    }

    private static void lengthsBesideLengths() {
        WeekFoot x = rich();
        at("promise 15, LENGTHS 0 .. 15");
        answered("between(v, 0, 1)", v -> x.between(v, 0, 1), to(0, 1000000), to(15, 142857), NOTHING);
        answered("between(0, v, 0)", v -> x.between(0, v, 0), to(0, 1000000), to(15, 7000000), NOTHING);
        at("promise 15, what 0 .. 3");
        answered("between(0, 15, v)", v -> x.between(0, 15, v), to(0, 7000000), to(3, 1), NOTHING);
        at("promise 16, LENGTHS 0 .. 15");
        answered("sure(v, 0)", v -> x.sure(v, 0), to(0, 3), to(15, 2), NOTHING);
        answered("sure(0, v)", v -> x.sure(0, v), to(0, 3), to(15, 1), NOTHING);
        at("promise 18, LENGTHS 0 .. 15");
        answered("part(v, 12, 0)", v -> x.part(v, 12, 0), to(0, 7), to(15, 1), NOTHING);
        answered("part(0, v, 0)", v -> x.part(0, v, 0), to(0, 1), to(15, 7), NOTHING);
        at("promise 18, what 0, 1");
        answered("part(0, 12, v)", v -> x.part(0, 12, v), to(0, 7), to(1, 1), NOTHING);
    }

    private static void wholeFeet() {
        WeekFoot x = rich();
        at("promise 17, a LENGTH 0 .. 11");
        answered("feet(v, 0, 0)", v -> x.feet(v, 0, 0), to(0, 7), to(11, 4), NOTHING);
        at("promise 17, KEEPERS 0 .. 3");
        answered("feet(0, v, 1)", v -> x.feet(0, v, 1), to(0, 7), to(3, 7), NOTHING);
        at("promise 17, what 0, 1");
        answered("feet(6, 0, v)", v -> x.feet(6, 0, v), to(0, 0), to(1, 7), NOTHING);
    }

    private static void laidAndAreas() {
        WeekFoot x = rich();
        at("promise 19, LENGTHS 0 .. 11");
        answered("lay(v, 0, NONE, 0, 0)", v -> x.lay(v, 0, NONE, 0, 0), to(0, 14), to(11, 11), NOTHING);
        answered("lay(0, v, NONE, 0, 0)", v -> x.lay(0, v, NONE, 0, 0), to(0, 14), to(11, 11), NOTHING);
        at("promise 19, the third may be NONE");
        answered("lay(0, 0, v, 0, 0)", v -> x.lay(0, 0, v, 0, 0), to(NONE, 14), to(11, 18), NOTHING);
        at("promise 19, KEEPERS 0 .. 3");
        answered("lay(0, 0, 0, v, 0)", v -> x.lay(0, 0, 0, v, 0), to(0, 21), to(3, 21), NOTHING);
        at("promise 19, what 0, 1");
        answered("lay(0, 6, 6, 0, v)", v -> x.lay(0, 6, 6, 0, v), to(0, 7), to(1, 21), NOTHING);
        at("promise 20, LENGTHS 0 .. 11");
        answered("area(v, 0, 0, 0)", v -> x.area(v, 0, 0, 0), to(0, 49), to(11, 28), NOTHING);
        answered("area(0, v, 0, 0)", v -> x.area(0, v, 0, 0), to(0, 49), to(11, 28), NOTHING);
        at("promise 20, KEEPERS 0 .. 3");
        answered("area(0, 0, v, 0)", v -> x.area(0, 0, v, 0), to(0, 49), to(3, 49), NOTHING);
        at("promise 20, what 0, 1");
        answered("area(0, 6, 0, v)", v -> x.area(0, 6, 0, v), to(0, 0), to(1, 49), NOTHING);
    }

    private static void oneMoreEntry() {
        WeekFoot x = rich();
        at("promise 21, a LENGTH 0 .. 11");
        answered("would(v, 0, 4, EXACT)", v -> x.would(v, 0, 4, EXACT), to(0, 0), to(11, 1), NOTHING);
        at("promise 21, KEEPERS 0 .. 3");
        answered("would(0, v, 7, EXACT)", v -> x.would(0, v, 7, EXACT), to(0, 1), to(3, 1), NOTHING);
        at("promise 21, a NUMBER 1 .. 99");
        answered("would(1, 0, v, WHOLE)", v -> x.would(1, 0, v, WHOLE), to(1, 2), to(99, 2), NOTHING);
        at("promise 21, KINDS 0 .. 2");
        answered("would(6, 0, 7, v)", v -> x.would(6, 0, 7, v), to(EXACT, 2), to(HALF, 2), NOTHING);
    }

    private static void numbersOfAKind() {
        WeekFoot x = rich();
        at("promise 22, a LENGTH 0 .. 11");
        answered("numbers(v, 0, EXACT, 1)", v -> x.numbers(v, 0, EXACT, 1), to(0, 7), to(11, 4), NOTHING);
        at("promise 22, KEEPERS 0 .. 3");
        answered("numbers(0, v, EXACT, 2)", v -> x.numbers(0, v, EXACT, 2), to(0, 7), to(3, 7), NOTHING);
        at("promise 22, KINDS 0 .. 2");
        answered("numbers(6, 0, v, 0)", v -> x.numbers(6, 0, v, 0), to(EXACT, 7), to(HALF, 7), NOTHING);
        at("promise 22, what 0 .. 2");
        answered("numbers(0, 0, WHOLE, v)", v -> x.numbers(0, 0, WHOLE, v), to(0, 1), to(2, 7), NOTHING);
    }

    private static void nextToAsk() {
        WeekFoot x = rich();
        at("promise 23, what 0 .. 2");
        answered("ask(v)", v -> x.ask(v), to(0, 0), to(2, 99), NONE);
        due("the keeper to ask", x.ask(1), 1);
    }

    private static void datesOfANumber() {
        WeekFoot x = rich();
        at("promise 24, THINGS 0 .. 5");
        answered("dates(v, 4, EXACT, 0)", v -> x.dates(v, 4, EXACT, 0), to(0, 3), to(5, 5), NOTHING);
        at("promise 24, a NUMBER 1 .. 99");
        answered("dates(0, v, WHOLE, 0)", v -> x.dates(0, v, WHOLE, 0), to(1, 3), to(99, 2), NOTHING);
        at("promise 24, KINDS 0 .. 2");
        answered("dates(0, 7, v, 0)", v -> x.dates(0, 7, v, 0), to(EXACT, 5), to(HALF, 5), NOTHING);
        at("promise 24, what 0 .. 2");
        answered("dates(0, 7, EXACT, v)", v -> x.dates(0, 7, EXACT, v), to(0, 5), to(2, 31), NOTHING);
    }

    private static void whatHangsTogether() {
        WeekFoot x = rich();
        at("promise 25, LENGTHS 0 .. 15");
        answered("joined(v, 0)", v -> x.joined(v, 0), to(0, 1), to(15, 1), NOTHING);
        answered("joined(0, v)", v -> x.joined(0, v), to(0, 1), to(15, 1), NOTHING);
        at("promise 26, what 0 .. 2");
        // 0, 5, their rests and two feet; four things with their rests; two feet
        answered("groups(v)", v -> x.groups(v), to(0, 7), to(2, 6), NONE);
    }

    private static void whatIsWrong() {
        WeekFoot x = written("week 0 by 0;thing 0 in 0 is 5,in 0 is 6");
        at("promise 28, what 0 .. 2");
        answered("wrong(v)", v -> x.wrong(v), to(0, 1), to(2, 1), NONE);
        due("in how many ways", x.wrong(1), 2);
    }

    private static void whoAndWhen() {
        WeekFoot x = written("thing 0 in 0 is 5;thing 1 in 31 is 5");
        at("promise 29, WEEKS 0 .. 31, or NONE");
        answered("whose(v)", v -> x.whose(v), to(NONE, 16), to(31, 5), NONE);
        due("whose(0)", x.whose(0), 5);
        at("promise 30, WEEKS 0 .. 31");
        answered("could(v, 0)", v -> x.could(v, 0), to(0, 4), to(31, 4), NONE);
        at("promise 30, KEEPERS 0 .. 3");
        answered("could(0, v)", v -> x.could(0, v), to(0, 4), to(3, 4), NONE);
        at("promise 31, THINGS 0 .. 5");
        answered("when(v, 0)", v -> x.when(v, 0), to(0, 31), to(5, 31), NONE);
        at("promise 31, what 0 .. 2");
        answered("when(0, v)", v -> x.when(0, v), to(0, 31), to(2, 31), NONE);
        due("the first", x.when(0, 1), 1);
    }

    private static void theToldWorld() {
        WeekFoot x = new WeekFoot();
        x.tell(0, 700);
        x.tell(11, 300);
        x.tell(15, 350);
        at("promise 33, a LENGTH 0 .. 11");
        answered("says(v, 0, WHOLE)", v -> x.says(v, 0, WHOLE), to(0, 7), to(11, 3), NONE);
        at("promise 33, KEEPERS 0 .. 3");
        answered("says(0, v, WHOLE)", v -> x.says(0, v, WHOLE), to(0, 7), to(3, 2), NONE);
        at("promise 33, KINDS 0 .. 2");
        answered("says(0, 0, v)", v -> x.says(0, 0, v), to(EXACT, 700), to(HALF, 7), NONE);
        WeekFoot y = written("week 0 by 0;thing 0 in 0 is 1,in 0 is 5,in 0 is 6");
        at("promise 34, what 0 .. 2");
        answered("judge(v)", v -> y.judge(v), to(0, 1), to(2, 0), NONE);
        due("how many", y.judge(1), 2);
    }

    private static void theLatestYear() {
        WeekFoot x = new WeekFoot();
        x.tell(0, 500);
        x.tell(5, 300);
        x.year(77, 0, 1);
        int[] keepers = drawn(77);
        at("promise 36, what 0, 1, 2 + WEEK");
        answered("trade(v)", v -> x.trade(v), to(0, NONE), to(33, keepers[31]), NONE);
        answered("trade(v) from its weeks on", v -> v < 2 ? NONE : x.trade(v), to(2, keepers[0]),
                to(33, keepers[31]), NONE);
        at("promise 37, THINGS 0 .. 5");
        answered("told(v)", v -> x.told(v), to(0, 5 * 32), to(5, 3 * 32), NONE);
    }

    private static void countsOfAll() {
        WeekFoot x = withEntries(9);
        x.book();
        x.book();
        at("promise 40, what 0 .. 10, NONE for others");
        answered("count(v)", v -> x.count(v), to(0, 9), to(10, 2), NONE);
    }
}
