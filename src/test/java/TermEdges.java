import java.util.Arrays;

/** "Terms" I to IV of the document, each sentence that names a limit, the empty or the full. */
public final class TermEdges extends Desk {
    public static void main(String[] args) {
        notKnownAtFirst();
        notCutAtFirst();
        cutFromItsWeekOn();
        notLongerThanAhead();
        entriesAtMost();
        kindsAtTheirEnds();
        struckOnes();
        lessThanTheOther();
        shorterAtMost();
        firstReasonInOrder();
        lengthsThatAreThere();
        numbersAboveZero();
        tiesOfUnknownWeeks();
        whatFits();
        laidAtTheirEnds();
        numbersThatCouldBeTold();
        askedOfAlikeOnes();
        tiedOneByOne();
        coreFromTheFirstOn();
        wrongTwoAtMost();
        weeksThreeAtMost();
        weeksByWhichItCanBe();
        toldAtFirst();
        saidByKinds();
        judgedByKinds();
        drawsGoRound();
        gainAndItsWeeks();
        rowsByFours();
        imagesKeep();
        finish();
    }

    // ------------------------------------------------------------ Terms I

    private static void notKnownAtFirst() {
        at("Terms I: WEEKS, each with its KEEPER, or not known (at first)");
        WeekFoot x = new WeekFoot();
        due("known", x.count(3), 0);
        for (int w = 0; w < 32; w++) {
            due("what week " + w + " was", x.week(w, w % 4), NONE);
        }
        due("all are known", x.count(3), 32);
        due("status", x.status(), 0);
        for (int w = 0; w < 32; w++) {
            due("what week " + w + " was", x.week(w, NONE), w % 4);
        }
        due("none is known", x.count(3), 0);
        due("nothing refused", x.count(6), 0);
    }

    private static void notCutAtFirst() {
        at("Terms I: a THING may be CUT in a WEEK 1 .. 31 (not at first)");
        WeekFoot x = new WeekFoot();
        due("cut ones", x.count(4), 0);
        for (int t = 0; t < 6; t++) {
            due("what thing " + t + " was", x.cut(t, 1 + 6 * t), NONE);
        }
        due("all are cut", x.count(4), 6);
        for (int t = 0; t < 6; t++) {
            due("what thing " + t + " was", x.cut(t, NONE), 1 + 6 * t);
        }
        due("none is cut", x.count(4), 0);
    }

    private static void cutFromItsWeekOn() {
        at("Terms I: CUT in a WEEK, from that on it is another length");
        WeekFoot x = new WeekFoot();
        int[] weeks = {0, 1, 2, 30, 31};
        for (int w : weeks) {
            x.entry(4, w, 5, EXACT);
        }
        int[][] want = {{1, 4, 10, 10, 10, 10}, {2, 4, 4, 10, 10, 10}, {31, 4, 4, 4, 4, 10}, {NONE, 4, 4, 4, 4, 4}};
        for (int[] row : want) {
            x.cut(4, row[0]);
            for (int e = 0; e < weeks.length; e++) {
                due("cut in " + row[0] + ", length in " + weeks[e], x.of(e, 5), row[1 + e]);
            }
        }
    }

    private static void notLongerThanAhead() {
        at("Terms I: another length, not longer than the one ahead");
        WeekFoot x = written("week 0 to 31 by 0;thing 0 cut in 9;thing 0 in 8 is 5");
        due("as long, greatest", x.between(6, 0, 1), 1000000);
        due("as long is come to", x.between(6, 0, 3), 1);
        x.entry(0, 9, 5, EXACT);
        due("as long", x.fits(), 1);
        due("alike", x.sure(6, 0), 3);
        x.counts(1, 0);
        x.entry(0, 9, 5, WHOLE);
        due("from as long on", x.fits(), 1);
        due("so alike", x.sure(6, 0), 3);
        x.counts(2, 0);
        x.entry(0, 9, 6, HALF);
        due("from 5.5 on", x.fits(), 0);
        x.counts(3, 0);
        x.entry(0, 9, 4, WHOLE);
        due("shorter", x.fits(), 1);
        due("less", x.sure(6, 0), 2);
        x.entry(0, 31, 6, EXACT);
        due("longer", x.fits(), 0);
    }

    private static void entriesAtMost() {
        at("Terms I: ENTRIES, 24 at most");
        WeekFoot x = withEntries(23);
        due("the last one", x.entry(5, 31, 99, HALF), 23);
        due("its number", x.of(23, 2), 99);
        due("one more", x.entry(0, 0, 1, EXACT), -5);
        dueReason("one more", x, -5);
        due("entries", x.count(0), 24);
        due("the last one is as it was", x.of(23, 0), 5);
        for (int e = 0; e < 24; e++) {
            x.counts(e, 0);
        }
        due("none counts", x.count(1), 0);
        due("struck ones take room", x.entry(0, 0, 1, EXACT), -5);
        due("entries", x.count(0), 24);
    }

    private static void kindsAtTheirEnds() {
        for (int number : new int[] {1, 2, 50, 98, 99}) {
            WeekFoot x = withKeepers();
            for (int kind = EXACT; kind <= HALF; kind++) {
                x.entry(kind, 0, number, kind);
            }
            int million = 1000000;
            at("Terms I: 0 EXACT");
            dueEnds(x, EXACT, number * million, number * million, 1);
            at("Terms I: 1 WHOLE (from the NUMBER on to below one more)");
            dueEnds(x, WHOLE, number * million, (number + 1) * million, 0);
            at("Terms I: 2 HALF (from the NUMBER less a half on to below the NUMBER and a half)");
            dueEnds(x, HALF, number * million - million / 2, number * million + million / 2, 0);
        }
    }

    /** Of a thing by keeper 0; the least is always come to. */
    private static void dueEnds(WeekFoot x, int thing, int least, int greatest, int isComeTo) {
        due("least", x.between(thing, 12, 0), least);
        due("least come to", x.between(thing, 12, 2), 1);
        due("greatest", x.between(thing, 12, 1), greatest);
        due("greatest come to", x.between(thing, 12, 3), isComeTo);
    }

    private static void struckOnes() {
        at("Terms I: each COUNTS or is STRUCK");
        WeekFoot x = withKeepers();
        due("entry", x.entry(0, 0, 5, EXACT), 0);
        due("it counts at first", x.of(0, 4), 1);
        due("those that count", x.count(1), 1);
        due("what it was", x.counts(0, 0), 1);
        due("struck", x.of(0, 4), 0);
        due("those that count", x.count(1), 0);
        due("entries", x.count(0), 1);
        due("a struck one tells nothing", x.between(0, 12, 1), NONE);
        due("what it was", x.counts(0, 1), 0);
        due("it tells again", x.between(0, 12, 1), 5000000);
    }

    private static void lessThanTheOther() {
        at("Terms I: SHORTER: of two KEEPERS one's foot is less than the other's");
        WeekFoot x = new WeekFoot();
        x.shorter(3, 0);
        due("greatest", x.between(15, 12, 1), 1000000);
        due("only come near to", x.between(15, 12, 3), 0);
        due("least", x.between(12, 15, 0), 1000000);
        due("only come near to", x.between(12, 15, 2), 0);
        due("less", x.sure(15, 12), 2);
        due("greater", x.sure(12, 15), 1);
        due("the other way round is another one", x.shorter(0, 3), 2);
        due("they can't be together", x.fits(), 0);
    }

    private static void shorterAtMost() {
        at("Terms I: SHORTER (6 at most)");
        WeekFoot x = withSixShorter();
        due("six", x.count(2), 6);
        due("they can be", x.fits(), 1);
        due("one more", x.shorter(1, 0), -5);
        dueReason("one more", x, -5);
        due("six", x.count(2), 6);
        due("they can be", x.fits(), 1);
    }

    private static void firstReasonInOrder() {
        at("Terms I: REFUSED by, the first of these in that order");
        WeekFoot x = withEntries(24);
        due("-1 ahead of -5: thing", x.entry(6, 0, 1, 0), -1);
        due("-1 ahead of -5: week", x.entry(0, 32, 1, 0), -1);
        due("-1 ahead of -5: number", x.entry(0, 0, 100, 0), -1);
        due("-1 ahead of -5: kind", x.entry(0, 0, 1, 3), -1);
        due("counts of -1", x.count(6), 4);
        due("counts of -5", x.count(9), 0);
        WeekFoot y = withEntries(3);
        due("-1 ahead of -2", y.counts(3, 2), -1);
        due("-1 ahead of -2", y.counts(23, -1), -1);
        due("-1 ahead of -2", y.back(2), -1);
        due("counts of -2", y.count(7), 0);
        due("-2", y.counts(3, 1), -2);
        WeekFoot z = withSixShorter();
        due("-1 ahead of -5: the same", z.shorter(2, 2), -1);
        due("-1 ahead of -5: no keeper", z.shorter(4, 0), -1);
        due("-3 ahead of -5", z.shorter(0, 1), -3);
        due("-5", z.shorter(1, 0), -5);
        due("each once, -1 twice", z.count(6) * 100 + z.count(8) * 10 + z.count(9), 211);
    }

    // ------------------------------------------------------------ Terms III

    private static void lengthsThatAreThere() {
        at("Terms III: LENGTHS, of all 16; a THING that is not CUT has no second LENGTH");
        WeekFoot x = new WeekFoot();
        for (int t = 0; t < 6; t++) {
            due("not cut", x.joined(6 + t, 6 + t), NOTHING);
            x.cut(t, 31);
            due("cut", x.joined(6 + t, 6 + t), 1);
            due("with its whole", x.joined(6 + t, t), 1);
        }
        for (int length = 0; length < 16; length++) {
            due("length " + length, x.between(length, length, 1), 1000000);
        }
        for (int t = 0; t < 6; t++) {
            x.cut(t, NONE);
            due("no more cut", x.joined(t, 6 + t), NOTHING);
            due("no more cut", x.between(6 + t, t, 0), NOTHING);
        }
    }

    private static void numbersAboveZero() {
        at("Terms III: numbers above 0; 0: as little as one likes, without bound above");
        WeekFoot x = new WeekFoot();
        x.cut(0, 1);
        int[][] pairs = {{0, 1}, {0, 12}, {12, 0}, {12, 15}, {6, 12}, {6, 1}};
        for (int[] p : pairs) {
            due("least", x.between(p[0], p[1], 0), 0);
            due("least come to", x.between(p[0], p[1], 2), 0);
            due("greatest", x.between(p[0], p[1], 1), NONE);
            due("greatest come to", x.between(p[0], p[1], 3), 0);
            due("neither is sure", x.sure(p[0], p[1]), 0);
            due("not the same", x.part(p[0], p[1], 0), 0);
        }
        due("the rest is above 0", x.between(6, 0, 2), 0);
    }

    private static void tiesOfUnknownWeeks() {
        at("Terms III: where he is not known it ties nothing");
        WeekFoot x = new WeekFoot();
        x.entry(0, 5, 9, EXACT);
        x.entry(0, 5, 8, EXACT);
        due("it can be", x.fits(), 1);
        due("no limit", x.between(0, 12, 1), NONE);
        due("groups", x.groups(0), 10);
        x.week(5, 2);
        due("it can't be", x.fits(), 0);
        due("joined", x.joined(0, 14), 1);
        due("groups", x.groups(0), 9);
        x.week(5, NONE);
        due("it can be again", x.fits(), 1);
        due("not joined", x.joined(0, 14), 0);
    }

    private static void whatFits() {
        at("Terms III: it CAN BE, if any WORLD FITS");
        WeekFoot x = new WeekFoot();
        due("nothing is told", x.fits(), 1);
        WeekFoot entries = written("week 0 by 0;thing 0 in 0 is 5 half,in 0 is 5 whole,in 0 is 6 half");
        due("below 5.5, from 5.5 on", entries.fits(), 0);
        entries.counts(0, 0);
        due("from 5.5 on, below 6", entries.fits(), 1);
        WeekFoot shorter = written("keeper 0 below 1;keeper 1 below 2;keeper 2 below 3");
        due("a row", shorter.fits(), 1);
        shorter.shorter(3, 0);
        due("a round", shorter.fits(), 0);
        WeekFoot cut = written("week 0 to 1 by 0;thing 0 cut in 1;thing 0 in 0 is 5 whole,in 1 is 5 half");
        due("from 5 to below 5.5 and more behind it", cut.fits(), 1);
        cut.entry(0, 1, 6, EXACT);
        due("6 behind what is below 6", cut.fits(), 0);
        // 99 of each foot are below 99 of the next, a round of four: each is longer than the one ahead
        WeekFoot round = withKeepers();
        for (int t = 0; t < 4; t++) {
            round.entry(t, t, 99, EXACT);
            round.entry(t, (t + 1) % 4, 98, WHOLE);
        }
        due("a round of four feet, each longer", round.fits(), 0);
        round.counts(7, 0);
        due("open again", round.fits(), 1);
    }

    /** Three things from 1960 to below 2000 feet of keeper 1, one of 2000, one of 2040. */
    private static WeekFoot longOnes() {
        return written("week 0 by 0;week 1 by 1;thing 0 in 0 is 1,in 1 is 40;thing 1 in 0 is 49 whole;"
                + "thing 2 in 0 is 49 whole;thing 3 in 0 is 49 whole;thing 4 in 0 is 50;thing 5 in 0 is 51");
    }

    private static void laidAtTheirEnds() {
        WeekFoot x = longOnes();
        at("Promise 15: 2,000,000,000 at most of both");
        due("1,960", x.between(1, 13, 0), 1960000000);
        due("near to 2,000", x.between(1, 13, 1), 2000000000);
        due("2,040, least", x.between(5, 13, 0), 2000000000);
        due("2,040, greatest", x.between(5, 13, 1), 2000000000);
        at("Promise 17: 2,000 at most of both");
        due("1,960", x.feet(1, 1, 0), 1960);
        due("below 2,000", x.feet(1, 1, 1), 1999);
        due("2,000", x.feet(4, 1, 0), 2000);
        due("2,040, fewest", x.feet(5, 1, 0), 2000);
        due("2,040, most", x.feet(5, 1, 1), 2000);
        at("Promise 19: 6,000 at most of both");
        due("three, fewest", x.lay(1, 2, 3, 1, 0), 5880);
        due("three, most", x.lay(1, 2, 3, 1, 1), 5999);
        due("6,000", x.lay(4, 4, 4, 1, 0), 6000);
        due("6,040, fewest", x.lay(4, 4, 5, 1, 0), 6000);
        due("6,040, most", x.lay(5, 4, 4, 1, 1), 6000);
        due("two do not come so far", x.lay(5, 5, NONE, 1, 1), 4080);
        at("Promise 20: 4,000,000 at most of both");
        due("1,960 by 1,960", x.area(1, 2, 1, 0), 3841600);
        due("below 4,000,000", x.area(1, 2, 1, 1), 3999999);
        due("4,000,000", x.area(4, 4, 1, 0), 4000000);
        due("2,040 by 2,000, fewest", x.area(5, 4, 1, 0), 4000000);
        due("2,040 by 2,000, most", x.area(5, 4, 1, 1), 4000000);
    }

    private static void numbersThatCouldBeTold() {
        at("Terms III: NUMBERS of a KIND 1 .. 99 COULD be told");
        // a foot of keeper 0 is two of keeper 1
        WeekFoot x = written("week 0 by 0;week 1 by 1;thing 0 in 0 is 1,in 1 is 2;"
                + "thing 1 in 0 is 50 half;thing 2 in 0 is 50;thing 3 in 0 is 1 half;thing 4 in 1 is 1");
        int[][] want = {
            // by keeper 1 thing 1 is from 99 to below 101, thing 2 is 100
            {1, 1, EXACT, 1, 99, 99}, {1, 1, WHOLE, 1, 99, 99}, {1, 1, HALF, 1, 99, 99},
            {2, 1, EXACT, 0, NONE, NONE}, {2, 1, WHOLE, 0, NONE, NONE}, {2, 1, HALF, 0, NONE, NONE},
            // by keeper 0 thing 3 is from 0.5 to below 1.5, thing 4 is 0.5
            {3, 0, EXACT, 1, 1, 1}, {3, 0, WHOLE, 1, 1, 1}, {3, 0, HALF, 1, 1, 1},
            {4, 0, EXACT, 0, NONE, NONE}, {4, 0, WHOLE, 0, NONE, NONE}, {4, 0, HALF, 1, 1, 1},
            // nothing ties thing 5
            {5, 0, EXACT, 99, 1, 99}, {5, 0, WHOLE, 99, 1, 99}, {5, 0, HALF, 99, 1, 99}};
        for (int[] row : want) {
            for (int what = 0; what <= 2; what++) {
                due("numbers(" + row[0] + ", " + row[1] + ", " + row[2] + ", " + what + ")",
                        x.numbers(row[0], row[1], row[2], what), row[3 + what]);
            }
        }
    }

    private static void askedOfAlikeOnes() {
        at("Terms III: to ASK next, of alike ones the lowest LENGTH, then KEEPER");
        WeekFoot x = withKeepers();
        due("length", x.ask(0), 0);
        due("keeper", x.ask(1), 0);
        x.entry(0, 0, 3, EXACT);
        due("its other keepers are open", x.ask(0), 0);
        due("the lowest of them", x.ask(1), 1);
        for (int k = 1; k < 4; k++) {
            x.entry(0, k, 3, EXACT);
        }
        due("then the next length", x.ask(0), 1);
        due("by the lowest keeper", x.ask(1), 0);
        for (int t = 1; t < 6; t++) {
            x.entry(t, 0, 3, EXACT);
        }
        due("all alike, one number each", x.ask(2), 1);
        due("length", x.ask(0), 0);
        due("keeper", x.ask(1), 0);
    }

    private static void tiedOneByOne() {
        at("Terms III: JOINED are LENGTHS that ENTRIES, SHORTER and CUTS tie, one by one; GROUPS");
        WeekFoot x = written("week 0 by 0;week 1 by 1;week 9 by 3;thing 0 cut in 9");
        due("with nothing but a cut", x.groups(0), 10);
        due("to measure", x.groups(1), 9);
        due("greatest", x.groups(2), 2);
        x.entry(0, 8, 5, EXACT);
        due("week 8 is not known", x.groups(0), 10);
        x.entry(0, 9, 5, EXACT);
        due("the rest with foot 3", x.joined(6, 15), 1);
        due("so the whole, too", x.joined(0, 15), 1);
        x.shorter(3, 1);
        due("foot 1 through foot 3", x.joined(0, 13), 1);
        due("not foot 0", x.joined(0, 12), 0);
        due("greatest", x.groups(2), 4);
        x.cut(0, NONE);
        due("without the cut", x.groups(2), 3);
        due("groups", x.groups(0), 8);
        WeekFoot all = written("week 0 by 0;keeper 0 below 1;keeper 1 below 2;keeper 2 below 3;thing 0 in 0 is 1;"
                + "thing 1 in 0 is 1;thing 2 in 0 is 1;thing 3 in 0 is 1;thing 4 in 0 is 1;thing 5 in 0 is 1");
        for (int t = 0; t < 6; t++) {
            all.cut(t, 1);
        }
        due("one group", all.groups(0), 1);
        due("nothing to measure", all.groups(1), 0);
        due("all 16", all.groups(2), 16);
    }

    private static void coreFromTheFirstOn() {
        at("Terms III: the CORE: from the first on each is left out, if it can't be without it either");
        WeekFoot x = withKeepers();
        for (int e = 0; e < 24; e++) {
            x.entry(0, 0, e == 23 ? 6 : 5, EXACT);
        }
        due("the last two", x.core(), 3 << 22);
        x.counts(22, 0);
        due("struck ones are not among them", x.core(), 1 << 21 | 1 << 23);
        x.counts(23, 0);
        due("it can be", x.core(), 0);
        WeekFoot all = withKeepers();
        all.shorter(0, 1);
        all.entry(0, 0, 5, EXACT);
        all.entry(0, 1, 5, EXACT);
        due("both are needed", all.core(), 3);
        all.shorter(1, 0);
        due("without any entry either", all.core(), NONE);
        due("a new object", new WeekFoot().core(), 0);
    }

    private static void wrongTwoAtMost() {
        at("Terms III: WRONG: the fewest ENTRIES, 2 at most, to be STRUCK besides");
        WeekFoot x = withKeepers();
        for (int t = 0; t < 3; t++) {
            x.entry(t, 0, 5, EXACT);
            x.entry(t, 0, 6, EXACT);
            int[] ways = {2, 4, NONE};
            int[] lowest = {1, 5, NONE};
            due("how many", x.wrong(0), t < 2 ? t + 1 : NONE);
            due("in how many ways", x.wrong(1), ways[t]);
            due("the lowest as bits", x.wrong(2), lowest[t]);
        }
        x.counts(0, 0);
        due("besides one that is struck", x.wrong(0), 2);
        due("the lowest as bits", x.wrong(2), 4 + 16);
        x.counts(2, 0);
        x.counts(4, 0);
        due("none", x.wrong(0), 0);
        due("one way", x.wrong(1), 1);
        due("no bits", x.wrong(2), 0);
        WeekFoot last = withKeepers();
        for (int e = 0; e < 24; e++) {
            last.entry(0, 0, e < 22 ? 5 : e - 16, EXACT);
        }
        due("the last two", last.wrong(0), 2);
        due("one way", last.wrong(1), 1);
        due("as bits", last.wrong(2), 3 << 22);
    }

    private static void weeksThreeAtMost() {
        at("Terms III: WHOSE: WEEKS that have ENTRIES that COUNT and whose KEEPER is not known, 3 at most");
        WeekFoot x = new WeekFoot();
        due("no such week", x.whose(NONE), 1);
        int[] weeks = {0, 15, 31};
        for (int i = 0; i < 3; i++) {
            x.entry(i, weeks[i], 5, EXACT);
            due("ways", x.whose(NONE), 4 << 2 * i);
            due("not sure", x.whose(weeks[i]), 5);
            due("by each keeper", x.could(weeks[i], 3), 1 << 2 * i);
        }
        x.entry(3, 31, 5, EXACT);
        due("two entries in one week", x.whose(NONE), 64);
        x.entry(4, 20, 5, EXACT);
        due("four weeks", x.whose(NONE), NONE);
        due("four weeks", x.whose(0), NONE);
        due("four weeks", x.could(0, 0), NONE);
        x.counts(4, 0);
        due("struck", x.whose(NONE), 64);
        due("not one of them", x.whose(20), NONE);
        due("not one of them", x.could(20, 0), NONE);
        x.counts(4, 1);
        x.week(20, 0);
        due("known", x.whose(NONE), 64);
        due("not one of them", x.whose(20), NONE);
        due("not one of them", x.could(20, 0), NONE);
        at("Terms III: WHOSE, with all 24 ENTRIES");
        WeekFoot full = new WeekFoot();
        full.week(0, 0);
        for (int e = 0; e < 24; e++) {
            full.entry(e < 21 ? 0 : e - 20, e < 21 ? 0 : e + 8, 5, EXACT);
        }
        due("ways", full.whose(NONE), 64);
        due("the last week", full.whose(31), 5);
        due("one without entries", full.whose(28), NONE);
        due("by each keeper", full.could(31, 3), 16);
        full.week(30, 1);
        full.week(31, 1);
        due("one week", full.could(29, 3), 1);
        full.week(29, 1);
        due("no such week", full.whose(NONE), 1);
    }

    private static void weeksByWhichItCanBe() {
        at("Terms III: WHEN a THING (not CUT) could be CUT: the WEEKS 1 .. 31");
        WeekFoot x = written("week 0 to 31 by 0;thing 0 in 0 is 9,in 1 is 8;thing 1 in 30 is 9,in 31 is 8");
        due("another thing's entries can't be", x.when(0, 0), 0);
        x.counts(2, 0);
        due("behind week 0 alone", x.when(0, 0), 1);
        due("first", x.when(0, 1), 1);
        due("last", x.when(0, 2), 1);
        x.counts(2, 1);
        x.counts(0, 0);
        due("in week 31 alone", x.when(1, 0), 1);
        due("first", x.when(1, 1), 31);
        due("last", x.when(1, 2), 31);
        due("no week for an uncut one", x.when(5, 0), 0);
        due("first", x.when(5, 1), NONE);
        due("last", x.when(5, 2), NONE);
        x.cut(1, 31);
        due("it is cut", x.when(1, 0), NONE);
        due("it is cut", x.when(1, 1), NONE);
        due("it is cut", x.when(1, 2), NONE);
        due("any week for another", x.when(5, 0), 31);
    }

    // ------------------------------------------------------------ Terms IV

    private static void toldAtFirst() {
        at("Terms IV: LENGTHS 1 .. 9,999 each (100 at first)");
        WeekFoot x = new WeekFoot();
        for (int length = 0; length < 16; length++) {
            due("at first", x.tell(length, 9999), 100);
            due("the most", x.tell(length, 10000), -1);
            due("the most stays", x.tell(length, 1), 9999);
            due("the least", x.tell(length, 0), -1);
            due("the least stays", x.tell(length, 1), 1);
        }
        due("refused", x.count(6), 32);
        due("cut ones are told where nothing is cut", x.count(4), 0);
    }

    private static void saidByKinds() {
        WeekFoot x = new WeekFoot();
        // the length, a foot of 200: exact, whole, half
        int[][] rows = {{1, 0, 0, 0}, {2, 1, 0, 0}, {99, 49, 0, 0}, {100, 50, 0, 1}, {199, 99, 0, 1}, {200, 100, 1, 1},
            {299, 149, 1, 1}, {300, 150, 1, 2}, {399, 199, 1, 2}, {9999, 4999, 49, 50}};
        x.tell(14, 200);
        for (int[] row : rows) {
            x.tell(3, row[0]);
            x.tell(9, row[0]);
            for (int length = 3; length <= 9; length += 6) {
                at("Terms IV: EXACT hundredths of feet, cut");
                due("length " + row[0], x.says(length, 2, EXACT), row[1]);
                at("Terms IV: WHOLE feet, cut");
                due("length " + row[0], x.says(length, 2, WHOLE), row[2]);
                at("Terms IV: HALF: the nearest feet, a half counts up");
                due("length " + row[0], x.says(length, 2, HALF), row[3]);
            }
        }
        at("Terms IV: SAYS at the edges of the TOLD WORLD");
        x.tell(0, 9999);
        x.tell(12, 1);
        due("the most hundredths", x.says(0, 0, EXACT), 999900);
        due("the most feet", x.says(0, 0, WHOLE), 9999);
        due("the most feet", x.says(0, 0, HALF), 9999);
        x.tell(0, 1);
        x.tell(12, 9999);
        due("the least", x.says(0, 0, EXACT) + x.says(0, 0, WHOLE) + x.says(0, 0, HALF), 0);
        at("Terms IV: a half that is between two whole numbers of an odd foot");
        x.tell(12, 3);
        x.tell(0, 4);
        due("4 thirds", x.says(0, 0, HALF), 1);
        x.tell(0, 5);
        due("5 thirds", x.says(0, 0, HALF), 2);
    }

    private static void judgedByKinds() {
        at("Terms IV: JUDGED: the first ENTRY that COUNTS, whose WEEK's KEEPER is known and that is not so");
        // by a foot of 100: the number, its kind, the least that is so, the greatest that is so
        int[][] rows = {{1, EXACT, 100, 100}, {1, WHOLE, 100, 199}, {1, HALF, 50, 149},
            {99, EXACT, 9900, 9900}, {99, WHOLE, 9900, 9999}, {99, HALF, 9850, 9949}};
        for (int[] row : rows) {
            WeekFoot x = new WeekFoot();
            x.week(7, 1);
            x.entry(2, 7, row[0], row[1]);
            for (int told : new int[] {row[2] - 1, row[2], row[3], Math.min(9999, row[3] + 1)}) {
                boolean isSo = told >= row[2] && told <= row[3];
                x.tell(2, told);
                due("first by " + told, x.judge(0), isSo ? NONE : 0);
                due("how many by " + told, x.judge(1), isSo ? 0 : 1);
                due("fits by " + told, x.judge(2), isSo ? 1 : 0);
            }
            x.tell(2, row[2] - 1);
            x.counts(0, 0);
            due("struck", x.judge(1), 0);
            x.counts(0, 1);
            x.week(7, NONE);
            due("not known", x.judge(1), 0);
            due("fits", x.judge(2), 1);
        }
        at("Terms IV: JUDGED, CUT ones too");
        WeekFoot x = written("week 4 to 5 by 0;thing 2 cut in 5;thing 2 in 4 is 1,in 5 is 1");
        due("both are so", x.judge(1), 0);
        x.tell(8, 99);
        due("the one in the cut's week", x.judge(0), 1);
        x.cut(2, 6);
        due("ahead of the cut", x.judge(1), 0);
        x.cut(2, 4);
        due("both behind it", x.judge(1), 2);
        due("the first", x.judge(0), 0);
    }

    private static void drawsGoRound() {
        at("Terms IV: s becomes (s times 1103 and 12345) modulo 1,000,003, it is s modulo n");
        // seeds whose first s is 0, the greatest, and one just behind a wrap-around
        for (int target : new int[] {0, 1, 1000002, 1000001, 4, 7}) {
            int seed = seedFor(target);
            WeekFoot x = new WeekFoot();
            x.year(seed, 0, 1);
            due("first draw to " + target, x.trade(2), target % 4);
        }
        for (int seed : new int[] {0, 1, 2, 999999, 1000000}) {
            WeekFoot x = new WeekFoot();
            x.year(seed, 0, 1);
            int[] keepers = drawn(seed);
            for (int w = 0; w < 32; w++) {
                due("seed " + seed + ", week " + w, x.trade(2 + w), keepers[w]);
            }
            due("on paper", x.count(3), 0);
        }
    }

    private static int seedFor(int target) {
        for (int seed = 0; seed <= 1000000; seed++) {
            if ((seed * 1103L + 12345) % 1000003 == target) {
                return seed;
            }
        }
        due("a seed for " + target, 0, 1);
        return 0;
    }

    private static void gainAndItsWeeks() {
        at("Terms IV: the GAIN is the most that selling brings more than buying, 0 at least");
        WeekFoot x = new WeekFoot();
        due("alike feet", x.year(5, 0, 99), 0);
        due("no buying", x.trade(0), NONE);
        due("no selling", x.trade(1), NONE);
        int[] keepers = drawn(5);
        x.tell(0, 9999);
        x.tell(12 + keepers[31], 1);
        int others = 0;
        while (keepers[others] == keepers[31]) {
            others++;
        }
        due("the most gain", x.year(5, 0, 99), 99 * (9999 - 99));
        due("first week of buying", x.trade(0), others);
        int selling = others;
        while (keepers[selling] != keepers[31]) {
            selling++;
        }
        due("then of selling", x.trade(1), selling);
        at("Terms IV: bought in one WEEK, sold in a later one");
        dueNoGainBackwards();
    }

    /** A foot that is shorter in the first weeks alone: all that is sold later brings less. */
    private static void dueNoGainBackwards() {
        for (int seed = 0; seed < 100000; seed++) {
            int[] keepers = drawn(seed);
            int last = 31;
            while (keepers[last] != keepers[0]) {
                last--;
            }
            boolean isRow = true;
            for (int w = 0; w <= last; w++) {
                isRow = isRow && keepers[w] == keepers[0];
            }
            if (isRow) {
                WeekFoot x = new WeekFoot();
                x.tell(0, 1000);
                x.tell(12 + keepers[0], 10);
                due("seed " + seed + ", dear ahead, cheap behind", x.year(seed, 0, 9), 0);
                due("no buying", x.trade(0), NONE);
                due("no selling", x.trade(1), NONE);
                return;
            }
        }
        due("a seed with one keeper ahead alone", 0, 1);
    }

    private static void rowsByFours() {
        at("Terms IV: a ROW of ENTRIES, the TAPE's bytes by fours: THING, WEEK, NUMBER, KIND");
        int[][] rows = {{0, 0, 1, 0}, {5, 31, 99, 2}, {6, 0, 1, 0}, {255, 0, 1, 0}, {0, 32, 1, 0}, {0, 255, 1, 0},
            {0, 0, 0, 0}, {0, 0, 100, 0}, {0, 0, 255, 0}, {0, 0, 1, 3}, {0, 0, 1, 255}};
        for (int i = 0; i < rows.length; i++) {
            WeekFoot x = new WeekFoot();
            int came = i < 2 ? 1 : 0;
            due("row " + i, rowOf(x, rows[i]), came);
            due("blurred of row " + i, x.blurred(), 1 - came);
            dueReason("row " + i, x, 0);
            due("the tape is empty", x.count(5), 0);
            for (int what = 0; what < 4; what++) {
                due("of row " + i, x.of(0, what), came == 1 ? rows[i][what] : NONE);
            }
        }
        at("Terms IV: one within which the TAPE ends is BLURRED");
        for (int bytes = 1; bytes <= 9; bytes++) {
            WeekFoot x = new WeekFoot();
            int[] row = {1, 1, 1, 1, 2, 2, 2, 2, 3, 3, 3, 3};
            due(bytes + " bytes", rowOf(x, Arrays.copyOf(row, bytes)), bytes / 4);
            due("blurred", x.blurred(), bytes % 4 == 0 ? 0 : 1);
            due("entries", x.count(0), bytes / 4);
        }
        at("Terms IV: one for which there is no room is BLURRED");
        WeekFoot x = withEntries(23);
        due("the last one", rowOf(x, 5, 31, 99, 2, 0, 0, 1, 0, 9, 9, 9, 9, 0), 1);
        due("blurred", x.blurred(), 3);
        due("the last one's number", x.of(23, 2), 99);
        due("no room at all", rowOf(x, 5, 31, 99, 2), 0);
        due("blurred", x.blurred(), 1);
        dueReason("a row without room", x, 0);
        at("Terms IV: a ROW of a full TAPE");
        WeekFoot full = new WeekFoot();
        int[] bytes = new int[400];
        Arrays.fill(bytes, 1);
        due("24 of 100", rowOf(full, bytes), 24);
        due("76 blurred", full.blurred(), 76);
    }

    private static void imagesKeep() {
        at("Terms IV: IMAGES 0, 1 keep all but the TAPE, FAULT, BLURRED, the latest YEAR");
        WeekFoot x = new WeekFoot();
        x.image(0);
        bookOf(x, "week 0 to 31 by 1;thing 0 cut in 31;keeper 0 below 1;thing 0 in 0 is 5,in 1 is 6;week 9 by");
        due("fault", x.fault(), 90);
        bookOf(x, "week 0 to 31 by 1;thing 0 cut in 31;keeper 0 below 1;thing 0 in 0 is 5,in 1 is 6");
        x.counts(1, 0);
        x.tell(15, 7);
        x.image(1);
        bookOf(x, "week");
        rowOf(x, 9);
        x.year(3, 0, 1);
        x.feed(0, 0, 0, 0, 0);
        due("back to the empty one", x.back(0), 0);
        due("the tape", x.count(5), 20);
        due("fault", x.fault(), 4);
        due("blurred", x.blurred(), 1);
        due("the latest year", x.trade(2), drawn(3)[0]);
        due("refused by -6", x.count(10), 2);
        int[] empty = {0, 0, 0, 0, 0};
        int[] full = {2, 1, 1, 32, 1};
        for (int what = 0; what < 5; what++) {
            due("count(" + what + ")", x.count(what), empty[what]);
        }
        due("a foot told", x.says(0, 3, WHOLE), 1);
        due("back to the other one", x.back(1), 0);
        for (int what = 0; what < 5; what++) {
            due("count(" + what + ")", x.count(what), full[what]);
        }
        due("a foot told", x.says(0, 3, WHOLE), 14);
        due("it counts", x.of(0, 4), 1);
        due("struck", x.of(1, 4), 0);
        due("the tape", x.count(5), 20);
        at("Terms IV: IMAGES stay");
        x.counts(0, 0);
        x.entry(1, 1, 1, 1);
        due("back again", x.back(1), 0);
        due("entries", x.count(0), 2);
        due("those that count", x.count(1), 1);
        due("back to the empty one again", x.back(0), 0);
        due("entries", x.count(0), 0);
    }
}
