import java.util.List;
import java.util.function.ToLongFunction;

/** What each promise answers where there is none, NOTHING, no room or no bound; the empty, the full. */
public final class PromiseEdges extends Desk {
    public static void main(String[] args) {
        whereItCannotBe();
        whereLengthsAreNotThere();
        whereNothingIsTold();
        withItself();
        lastMillionths();
        feetInAnyOrder();
        nearByOneStepAlone();
        halfAFootBelow();
        surelyByHalfAFoot();
        wholesAtTheirEnds();
        partsInLowestTerms();
        laidByThirds();
        laidByManyParts();
        areasAtTheirEnds();
        oneMoreAtItsEnds();
        leastToAsk();
        datesInAllWeeks();
        struckOnesTie();
        coresOfAll();
        surelyKept();
        noWayAtAll();
        cutAlready();
        firstThatIsNotSo();
        aheadOfAnyYear();
        gainOfCutThings();
        boughtInTheFirstWeek();
        toldByTheLatestYear();
        imagesOfNothing();
        blurredBehindOthers();
        lastCall();
        finish();
    }

    // ------------------------------------------------------------ it can't be, it is not there

    /** Calls with numbers that can be, each answering -2 where it can't be. */
    private static final List<ToLongFunction<WeekFoot>> NOTHINGS = List.of(
            x -> x.between(1, 12, 0), x -> x.between(1, 12, 1), x -> x.between(1, 12, 2), x -> x.between(1, 12, 3),
            x -> x.between(1, 1, 0), x -> x.sure(1, 12), x -> x.sure(1, 1), x -> x.feet(1, 0, 0), x -> x.feet(1, 0, 1),
            x -> x.part(1, 12, 0), x -> x.part(1, 1, 1), x -> x.lay(1, 2, NONE, 0, 0), x -> x.lay(1, 2, 3, 0, 1),
            x -> x.area(1, 2, 0, 0), x -> x.area(1, 2, 0, 1), x -> x.would(1, 0, 5, WHOLE),
            x -> x.numbers(1, 0, WHOLE, 0), x -> x.numbers(1, 0, EXACT, 1), x -> x.numbers(1, 0, HALF, 2),
            x -> x.dates(1, 5, WHOLE, 0), x -> x.dates(1, 5, WHOLE, 1), x -> x.dates(1, 5, WHOLE, 2));

    private static void whereItCannotBe() {
        at("promises 15 .. 24: NOTHING (-2: it can't be)");
        List<WeekFoot> all = List.of(
                written("week 0 by 0;thing 0 in 0 is 5,in 0 is 6"),
                written("keeper 0 below 1;keeper 1 below 0"),
                written("week 0 to 9 by 0;thing 0 cut in 5;thing 0 in 4 is 5,in 5 is 6"));
        for (WeekFoot x : all) {
            due("fits", x.fits(), 0);
            for (int i = 0; i < NOTHINGS.size(); i++) {
                due("call " + i, NOTHINGS.get(i).applyAsLong(x), NOTHING);
            }
            for (int what = 0; what <= 2; what++) {
                due("ask", x.ask(what), NONE);
            }
            due("joined all the same", x.joined(1, 1), 1);
            due("groups all the same", x.groups(2) > 1 ? 1 : 0, 1);
            dueReason("looking", x, 0);
        }
        at("promises 15 .. 24: where it can be there is something");
        WeekFoot x = new WeekFoot();
        for (int i = 0; i < NOTHINGS.size(); i++) {
            due("call " + i, NOTHINGS.get(i).applyAsLong(x) == NOTHING ? 1 : 0, 0);
        }
    }

    private static void whereLengthsAreNotThere() {
        at("promises 15 .. 22, 25: NOTHING (LENGTHS that are not there: CUT ones of THINGS not CUT)");
        for (int t = 0; t < 6; t++) {
            WeekFoot x = new WeekFoot();
            int rest = 6 + t;
            for (int want : new int[] {NOTHING, 0}) {
                long[] answers = {x.between(rest, 12, 0), x.between(12, rest, 0), x.sure(rest, 12), x.sure(12, rest),
                    x.feet(rest, 0, 0), x.part(rest, 12, 0), x.part(12, rest, 0), x.lay(rest, 0, NONE, 0, 0),
                    x.lay(0, rest, NONE, 0, 0), x.lay(0, 0, rest, 0, 0), x.area(rest, 0, 0, 0), x.area(0, rest, 0, 0),
                    x.joined(rest, 12), x.joined(12, rest)};
                for (int i = 0; i < answers.length; i++) {
                    due("answer " + i + " of length " + rest, answers[i], want);
                }
                due("itself", x.between(rest, rest, 0), want == NOTHING ? NOTHING : 1000000);
                due("itself", x.sure(rest, rest), want == NOTHING ? NOTHING : 3);
                due("would", x.would(rest, 0, 5, WHOLE), want == NOTHING ? NOTHING : 2);
                due("numbers", x.numbers(rest, 0, WHOLE, 0), want == NOTHING ? NOTHING : 99);
                due("the told world has it all the same", x.says(rest, 0, WHOLE), 1);
                x.cut(t, 31);
            }
        }
    }

    private static void whereNothingIsTold() {
        at("promises 15 .. 22: no bound");
        WeekFoot x = new WeekFoot();
        due("the most feet", x.feet(0, 0, 1), NONE);
        due("the fewest feet", x.feet(0, 0, 0), 0);
        due("laid, the most", x.lay(0, 0, NONE, 0, 1), NONE);
        due("laid, the fewest", x.lay(0, 0, NONE, 0, 0), 0);
        due("area, the most", x.area(0, 0, 0, 1), NONE);
        due("area, the fewest", x.area(0, 0, 0, 0), 0);
        due("not the same", x.part(0, 12, 0), 0);
        due("not the same", x.part(0, 12, 1), 0);
        x.week(0, 0);
        x.entry(0, 0, 5, EXACT);
        due("one of two without bound", x.lay(0, 1, NONE, 0, 1), NONE);
        due("one of three without bound", x.lay(0, 0, 1, 0, 1), NONE);
        due("one of three without least", x.lay(0, 0, 1, 0, 0), 10);
        due("one of two without bound", x.area(1, 0, 0, 1), NONE);
        due("one of two without least", x.area(1, 0, 0, 0), 0);
        at("promises 15, 17: a bound above, none below, and the other way round");
        x.shorter(0, 1);
        due("by a longer foot, least", x.between(0, 13, 0), 0);
        due("come to", x.between(0, 13, 2), 0);
        due("by a longer foot, greatest", x.between(0, 13, 1), 5000000);
        due("come to", x.between(0, 13, 3), 0);
        due("by a longer foot, most", x.feet(0, 1, 1), 4);
        x.shorter(2, 0);
        due("by a shorter foot, least", x.between(0, 14, 0), 5000000);
        due("come to", x.between(0, 14, 2), 0);
        due("by a shorter foot, greatest", x.between(0, 14, 1), NONE);
        due("come to", x.between(0, 14, 3), 0);
        due("by a shorter foot, fewest", x.feet(0, 2, 0), 5);
        due("by a shorter foot, most", x.feet(0, 2, 1), NONE);
    }

    // ------------------------------------------------------------ lengths beside lengths

    private static void withItself() {
        at("promise 15: one with itself: 1,000,000, come to");
        WeekFoot x = new WeekFoot();
        x.cut(5, 31);
        for (int length : new int[] {0, 5, 11, 12, 15}) {
            due("least", x.between(length, length, 0), 1000000);
            due("greatest", x.between(length, length, 1), 1000000);
            due("least come to", x.between(length, length, 2), 1);
            due("greatest come to", x.between(length, length, 3), 1);
            due("alike", x.sure(length, length), 3);
            due("upper", x.part(length, length, 0), 1);
            due("lower", x.part(length, length, 1), 1);
        }
    }

    private static void lastMillionths() {
        at("promise 15: in millionths, cut");
        WeekFoot x = written("week 0 by 0;week 1 by 1;thing 0 in 0 is 3,in 1 is 2;thing 1 in 0 is 99;thing 2 in 1 is 1");
        due("2 thirds", x.between(12, 13, 0), 666666);
        due("2 thirds", x.between(12, 13, 1), 666666);
        due("3 halves", x.between(13, 12, 1), 1500000);
        due("1 66th", x.between(2, 1, 0), 15151);
        due("66", x.between(1, 2, 1), 66000000);
        // 99 to the fourth of one foot are one of the last: below a millionth it is cut to 0
        WeekFoot y = withKeepers();
        for (int t = 0; t < 3; t++) {
            y.entry(t, t, 1, EXACT);
            y.entry(t, t + 1, 99, EXACT);
        }
        due("1 970,299th", y.between(15, 12, 0), 1);
        due("turned, at most", y.between(12, 15, 0), 2000000000);
        y.entry(3, 0, 99, EXACT);
        due("1 96,059,601th, cut", y.between(15, 3, 1), 0);
        due("come to", y.between(15, 3, 2), 1);
        due("come to", y.between(15, 3, 3), 1);
        due("surely less", y.sure(15, 3), 2);
        due("exactly", y.part(15, 3, 1), 96059601L);
    }

    private static final int[][] ORDERS = {{0, 1, 2, 3}, {0, 1, 3, 2}, {0, 2, 1, 3}, {0, 2, 3, 1}, {0, 3, 1, 2}, {0, 3, 2, 1},
        {1, 0, 2, 3}, {1, 0, 3, 2}, {1, 2, 0, 3}, {1, 2, 3, 0}, {1, 3, 0, 2}, {1, 3, 2, 0},
        {2, 0, 1, 3}, {2, 0, 3, 1}, {2, 1, 0, 3}, {2, 1, 3, 0}, {2, 3, 0, 1}, {2, 3, 1, 0},
        {3, 0, 1, 2}, {3, 0, 2, 1}, {3, 1, 0, 2}, {3, 1, 2, 0}, {3, 2, 0, 1}, {3, 2, 1, 0}};

    private static void feetInAnyOrder() {
        at("promise 15: over all WORLDS that FIT, through one, two, three steps of any feet");
        for (int[] order : ORDERS) {
            WeekFoot x = withKeepers();
            WeekFoot row = new WeekFoot();
            for (int t = 0; t < 3; t++) {
                x.entry(t, order[t], 2, EXACT);
                x.entry(t, order[t + 1], 1, EXACT);
                row.shorter(order[t], order[t + 1]);
            }
            for (int far = 1; far < 4; far++) {
                due("feet of the first", x.between(12 + order[far], 12 + order[0], 0), 1000000 << far);
                due("feet of the first", x.between(12 + order[far], 12 + order[0], 1), 1000000 << far);
                due("part of the last", x.part(12 + order[0], 12 + order[far], 1), 1 << far);
                due("shorter", row.sure(12 + order[0], 12 + order[far]), 2);
                due("longer", row.sure(12 + order[far], 12 + order[0]), 1);
            }
            x.entry(3, order[0], 7, WHOLE);
            x.entry(3, order[3], 1, EXACT);
            due("8 is not below 8", x.fits(), 0);
            row.shorter(order[3], order[0]);
            due("a round", row.fits(), 0);
        }
    }

    private static void nearByOneStepAlone() {
        at("promise 15: come to, or only come near to, if one step of a way is so");
        // 0 is shorter than 1, which is half of 2
        WeekFoot x = withKeepers();
        x.shorter(0, 1);
        x.entry(0, 1, 2, EXACT);
        x.entry(0, 2, 1, EXACT);
        due("near to a half", x.between(12, 14, 1), 500000);
        due("only near", x.between(12, 14, 3), 0);
        due("turned", x.between(14, 12, 0), 2000000);
        due("only near", x.between(14, 12, 2), 0);
        WeekFoot y = withKeepers();
        y.entry(0, 1, 2, EXACT);
        y.entry(0, 2, 1, EXACT);
        y.shorter(2, 3);
        due("near to a half", y.between(13, 15, 1), 500000);
        due("only near", y.between(13, 15, 3), 0);
        WeekFoot alike = withKeepers();
        alike.entry(0, 1, 1, EXACT);
        alike.entry(0, 2, 1, EXACT);
        alike.shorter(0, 1);
        alike.shorter(2, 3);
        due("shorter than one that is alike", alike.sure(12, 14), 2);
        due("alike to one that is shorter", alike.sure(13, 15), 2);
        due("both", alike.sure(12, 15), 2);
    }

    private static void halfAFootBelow() {
        at("Terms I: HALF of 1 is from a half on");
        WeekFoot x = written("week 0 by 0;week 1 by 1;thing 0 in 0 is 1 half,in 1 is 3");
        due("a foot of 0 at most", x.between(12, 13, 1), 6000000);
        due("come to", x.between(12, 13, 3), 1);
        due("at least", x.between(12, 13, 0), 2000000);
        due("come near to", x.between(12, 13, 2), 0);
    }

    private static void surelyByHalfAFoot() {
        at("promise 16: greater (1), less (2), alike (3), neither is sure (0)");
        WeekFoot x = written("week 0 by 0;thing 0 in 0 is 5 half;thing 1 in 0 is 6 half;thing 2 in 0 is 5;"
                + "thing 3 in 0 is 4 half;thing 4 in 0 is 4 whole;thing 5 in 0 is 5 whole");
        due("below 5.5 and from it on", x.sure(0, 1), 2);
        due("turned", x.sure(1, 0), 1);
        due("both from 4.5 on", x.sure(0, 2), 0);
        due("below 4.5 and from it on", x.sure(3, 0), 2);
        due("below 5 and 5", x.sure(4, 2), 2);
        due("5 and from 5 on", x.sure(2, 5), 0);
        due("below 5 and from 5 on", x.sure(4, 5), 2);
        due("a foot and more of them", x.sure(12, 3), 2);
        x.entry(5, 0, 5, EXACT);
        due("alike by exact ones", x.sure(2, 5), 3);
    }

    private static void wholesAtTheirEnds() {
        at("promise 17: the fewest, the most");
        WeekFoot x = written("week 0 by 0;thing 0 in 0 is 1 half;thing 1 in 0 is 99 whole;thing 2 in 0 is 99 half;thing 3 in 0 is 1");
        int[][] want = {{0, 1}, {99, 99}, {98, 99}, {1, 1}};
        for (int t = 0; t < want.length; t++) {
            due("fewest of " + t, x.feet(t, 0, 0), want[t][0]);
            due("most of " + t, x.feet(t, 0, 1), want[t][1]);
        }
        x.cut(3, 1);
        due("the rest may be nearly nothing", x.feet(9, 0, 0), 0);
        due("the rest may be all", x.feet(9, 0, 1), 1);
    }

    private static void partsInLowestTerms() {
        at("promise 18: in lowest terms; 0, if it is not the same");
        WeekFoot x = written("week 0 by 0;thing 0 in 0 is 98;thing 1 in 0 is 42;thing 2 in 0 is 7 whole;thing 3 in 0 is 97");
        due("upper", x.part(0, 1, 0), 7);
        due("lower", x.part(0, 1, 1), 3);
        due("upper", x.part(0, 3, 0), 98);
        due("lower", x.part(0, 3, 1), 97);
        due("a foot", x.part(12, 0, 1), 98);
        due("not the same", x.part(2, 12, 0), 0);
        due("not the same", x.part(12, 2, 1), 0);
        // a rest from 7 on of a whole of 7
        x.cut(4, 1);
        x.week(1, 0);
        x.entry(4, 0, 7, EXACT);
        x.entry(4, 1, 7, HALF);
        due("from 6.5 to 7", x.part(10, 4, 0), 0);
        x.entry(4, 1, 7, WHOLE);
        due("7 alone", x.part(10, 4, 0), 1);
        due("7 alone", x.part(10, 0, 1), 14);
    }

    // ------------------------------------------------------------ feet together, numbers

    private static void laidByThirds() {
        at("promise 19: WHOLE feet, the fewest, the most");
        // by keeper 0: a third, two thirds, from a third of 1 to below a third of 2
        WeekFoot x = written("week 0 by 0;week 1 by 1;thing 0 in 0 is 1,in 1 is 3;thing 1 in 1 is 1;thing 2 in 1 is 2;"
                + "thing 3 in 1 is 1 whole;thing 4 in 0 is 99 whole;thing 5 in 0 is 99");
        due("a third and two", x.lay(1, 2, NONE, 0, 0), 1);
        due("two thirds and two", x.lay(2, 2, NONE, 0, 1), 1);
        due("three times two thirds", x.lay(2, 2, 2, 0, 1), 2);
        due("near to a whole", x.lay(1, 3, NONE, 0, 1), 0);
        due("near to two", x.lay(3, 3, 3, 0, 1), 1);
        due("from a whole on", x.lay(3, 3, 3, 0, 0), 1);
        due("near to 200", x.lay(4, 4, NONE, 0, 1), 199);
        due("one is near to its end", x.lay(5, 4, NONE, 0, 1), 198);
        due("all are come to", x.lay(5, 5, 5, 0, 1), 297);
        due("whatever their order", x.lay(3, 5, 1, 0, 1), 99);
        due("whatever their order", x.lay(1, 3, 5, 0, 1), 99);
        due("whatever their order", x.lay(5, 1, 3, 0, 1), 99);
    }

    private static void laidByManyParts() {
        at("promise 19: exactly, by parts that have nothing in common");
        // a foot of keeper 0 is 3 of keeper 1, 7 of keeper 2, 5 of keeper 3
        String feet = "week 0 by 0;week 1 by 1;week 2 by 2;week 3 by 3;thing 0 in 0 is 1,in 1 is 3,in 2 is 7,in 3 is 5;";
        for (int i = 0; i < 2 * 6 * 4; i++) {
            int thirds = 1 + i / 24;
            int sevenths = 1 + i / 4 % 6;
            int fifths = 1 + i % 4;
            WeekFoot x = written(feet + "thing 1 in 1 is " + thirds + ";thing 2 in 2 is " + sevenths + ";thing 3 in 3 is " + fifths);
            int wholes = (35 * thirds + 15 * sevenths + 21 * fifths) / 105;
            for (int what = 0; what <= 1; what++) {
                due("laid " + i, x.lay(1, 2, 3, 0, what), wholes);
                due("laid " + i, x.lay(2, 3, 1, 0, what), wholes);
                due("laid " + i, x.lay(3, 1, 2, 0, what), wholes);
                due("laid " + i, x.lay(3, 2, 1, 0, what), wholes);
            }
        }
        at("promise 19: exactly, by tenths");
        WeekFoot x = written("week 0 by 0;week 1 by 1;thing 0 in 0 is 1,in 1 is 10;thing 1 in 1 is 2;thing 2 in 1 is 5;"
                + "thing 3 in 1 is 7;thing 4 in 1 is 6;thing 5 in 1 is 1");
        due("0.2, 0.2, 0.5", x.lay(1, 1, 2, 0, 0), 0);
        due("0.2, 0.2, 0.7", x.lay(1, 1, 3, 0, 0), 1);
        due("0.2, 0.2, 0.6", x.lay(1, 1, 4, 0, 0), 1);
        due("0.2, 0.1, 0.6", x.lay(1, 5, 4, 0, 0), 0);
        due("0.7, 0.7, 0.6", x.lay(3, 3, 4, 0, 1), 2);
        due("0.7, 0.6, 0.6", x.lay(3, 4, 4, 0, 1), 1);
    }

    private static void areasAtTheirEnds() {
        at("promise 20: WHOLE square feet, the fewest, the most");
        WeekFoot x = written("week 0 by 0;week 1 by 1;thing 0 in 0 is 1,in 1 is 2;thing 1 in 1 is 3;thing 2 in 0 is 2 whole;"
                + "thing 3 in 0 is 4;thing 4 in 0 is 1 half;thing 5 in 0 is 99 half");
        due("1.5 by 1.5", x.area(1, 1, 0, 0), 2);
        due("1.5 by 4", x.area(1, 3, 0, 1), 6);
        due("below 3 by 4", x.area(2, 3, 0, 1), 11);
        due("below 3 by 4, turned", x.area(3, 2, 0, 1), 11);
        due("below 3 by below 3", x.area(2, 2, 0, 1), 8);
        due("from 2 on by 4", x.area(2, 3, 0, 0), 8);
        due("0.5 by 0.5", x.area(4, 4, 0, 0), 0);
        due("below 1.5 by below 1.5", x.area(4, 4, 0, 1), 2);
        due("98.5 by 98.5", x.area(5, 5, 0, 0), 9702);
        due("below 99.5 by below 99.5", x.area(5, 5, 0, 1), 9900);
    }

    private static void oneMoreAtItsEnds() {
        at("promise 21: 0 it can't be, 1 nothing new, 2 something");
        WeekFoot x = written("week 0 by 0;week 1 by 1;thing 0 in 0 is 5 whole;thing 1 in 0 is 5;thing 2 in 0 is 99 whole;"
                + "thing 3 in 0 is 1 half;thing 4 in 0 is 1,in 1 is 2;thing 5 in 0 is 50");
        int[][] rows = {
            {0, 0, 5, EXACT, 2}, {0, 0, 6, EXACT, 0}, {0, 0, 4, EXACT, 0}, {0, 0, 5, WHOLE, 1}, {0, 0, 4, WHOLE, 0},
            {0, 0, 6, WHOLE, 0}, {0, 0, 4, HALF, 0}, {0, 0, 5, HALF, 2}, {0, 0, 6, HALF, 2}, {0, 0, 7, HALF, 0},
            {1, 0, 5, EXACT, 1}, {1, 0, 5, WHOLE, 1}, {1, 0, 5, HALF, 1}, {1, 0, 4, WHOLE, 0}, {1, 0, 6, HALF, 0},
            {2, 0, 99, WHOLE, 1}, {2, 0, 99, HALF, 2}, {2, 0, 99, EXACT, 2}, {2, 0, 98, HALF, 0},
            {3, 0, 1, HALF, 1}, {3, 0, 1, WHOLE, 2}, {3, 0, 1, EXACT, 2}, {3, 0, 2, HALF, 0}, {3, 0, 2, WHOLE, 0},
            {5, 1, 99, WHOLE, 0}, {5, 1, 99, HALF, 0}, {1, 1, 10, EXACT, 1}, {1, 2, 1, WHOLE, 2}, {1, 2, 99, HALF, 2}};
        for (int[] row : rows) {
            due("would(" + row[0] + ", " + row[1] + ", " + row[2] + ", " + row[3] + ")",
                    x.would(row[0], row[1], row[2], row[3]), row[4]);
        }
    }

    private static void leastToAsk() {
        at("promise 23: how many NUMBERS; a LENGTH of which none could be told is not asked for");
        WeekFoot x = withKeepers();
        for (int k = 1; k < 4; k++) {
            x.entry(0, k, 99, EXACT);
        }
        x.entry(0, 0, 1, EXACT);
        for (int t = 1; t < 6; t++) {
            x.entry(t, 1, 50, EXACT);
        }
        due("1 of keeper 0, 99 or 50 of the others, or nothing", x.ask(2), 1);
        due("length", x.ask(0), 0);
        due("keeper", x.ask(1), 0);
        x.cut(0, 31);
        due("the rest may be 1 to 99 of keeper 1", x.ask(2), 99);
        due("length", x.ask(0), 6);
        due("keeper", x.ask(1), 1);
    }

    private static void datesInAllWeeks() {
        at("promise 24: WEEKS whose KEEPER is known: how many, the first, the last; NONE without");
        WeekFoot x = new WeekFoot();
        due("none is known", x.dates(0, 5, EXACT, 0), 0);
        due("first", x.dates(0, 5, EXACT, 1), NONE);
        due("last", x.dates(0, 5, EXACT, 2), NONE);
        bookOf(x, "week 0 to 31 by 0");
        due("all", x.dates(0, 5, EXACT, 0), 32);
        due("first", x.dates(0, 5, EXACT, 1), 0);
        due("last", x.dates(0, 5, EXACT, 2), 31);
        x.week(0, NONE);
        x.week(31, NONE);
        due("all but two", x.dates(0, 5, EXACT, 0), 30);
        due("first", x.dates(0, 5, EXACT, 1), 1);
        due("last", x.dates(0, 5, EXACT, 2), 30);
        at("promise 24: CUT, from its WEEK on");
        bookOf(x, "week 0 to 31 by 0;thing 0 in 3 is 9;thing 0 cut in 31");
        due("9 ahead and in the cut's week", x.dates(0, 9, EXACT, 0), 32);
        due("8 in the cut's week alone", x.dates(0, 8, EXACT, 0), 1);
        due("first", x.dates(0, 8, EXACT, 1), 31);
        x.entry(0, 31, 8, EXACT);
        due("9 ahead of it", x.dates(0, 9, EXACT, 2), 30);
        due("10 never", x.dates(0, 10, WHOLE, 0), 0);
    }

    // ------------------------------------------------------------ what hangs together, what is wrong

    private static void struckOnesTie() {
        at("promises 25, 26: ENTRIES tie, whatever they tell, whether they COUNT or not");
        WeekFoot x = withKeepers();
        x.entry(0, 3, 5, EXACT);
        x.counts(0, 0);
        due("joined", x.joined(0, 15), 1);
        due("groups", x.groups(0), 9);
        due("to measure", x.groups(1), 8);
        due("greatest", x.groups(2), 2);
        x.week(3, NONE);
        due("not known", x.joined(0, 15), 0);
        due("groups", x.groups(0), 10);
        due("greatest", x.groups(2), 1);
    }

    private static void coresOfAll() {
        at("promise 27: CORE; 0: it can be; NONE: it can't be without any ENTRY either");
        WeekFoot x = new WeekFoot();
        x.shorter(0, 1);
        due("it can be without any entry", x.core(), 0);
        x.shorter(1, 0);
        due("without any entry it can't be", x.core(), NONE);
        at("promise 28: NONE (2 are not enough, too)");
        for (int what = 0; what <= 2; what++) {
            due("nothing to strike", x.wrong(what), NONE);
        }
        // a round through all four feet: every one of eight entries is needed
        WeekFoot round = withKeepers();
        for (int t = 0; t < 4; t++) {
            round.entry(t, t, 99, EXACT);
            round.entry(t, (t + 1) % 4, 98, EXACT);
        }
        due("all eight", round.core(), 255);
        due("one is wrong", round.wrong(0), 1);
        due("any of the eight", round.wrong(1), 8);
        due("the lowest", round.wrong(2), 1);
        round.counts(0, 0);
        due("it can be", round.core(), 0);
        due("none is wrong", round.wrong(0), 0);
    }

    // ------------------------------------------------------------ who and when

    private static void surelyKept() {
        at("promise 29: the KEEPER of one of these WEEKS that is SURE (5: not sure)");
        WeekFoot x = withKeepers();
        for (int k = 0; k < 4; k++) {
            x.entry(0, k, 10 + 10 * k, EXACT);
        }
        for (int k = 0; k < 4; k++) {
            x.entry(0, 31, 10 + 10 * k, EXACT);
            due("one way", x.whose(NONE), 1);
            due("sure", x.whose(31), k);
            for (int other = 0; other < 4; other++) {
                due("ways with " + other, x.could(31, other), other == k ? 1 : 0);
            }
            x.counts(4 + k, 0);
        }
        x.entry(1, 31, 10, EXACT);
        due("four ways", x.whose(NONE), 4);
        due("not sure", x.whose(31), 5);
    }

    private static void noWayAtAll() {
        at("promise 29: NONE (there is no way); in how many ways: 0");
        WeekFoot x = new WeekFoot();
        x.entry(0, 7, 5, EXACT);
        x.entry(0, 7, 6, EXACT);
        due("ways", x.whose(NONE), 0);
        due("the week", x.whose(7), NONE);
        at("promise 30: in how many ways one of these WEEKS has a KEEPER");
        for (int k = 0; k < 4; k++) {
            due("keeper " + k, x.could(7, k), 0);
        }
        due("not one of them", x.could(8, 0), NONE);
        at("promise 29: no such WEEK, and it can't be");
        x.week(7, 0);
        due("ways", x.whose(NONE), 0);
        due("known", x.whose(7), NONE);
        due("known", x.could(7, 0), NONE);
        x.counts(1, 0);
        due("it can be", x.whose(NONE), 1);
    }

    private static void cutAlready() {
        at("promise 31: NONE without; NONE (it is CUT, too)");
        WeekFoot x = new WeekFoot();
        for (int t = 0; t < 6; t++) {
            due("any week", x.when(t, 0), 31);
            due("first", x.when(t, 1), 1);
            due("last", x.when(t, 2), 31);
            x.cut(t, 31);
            for (int what = 0; what <= 2; what++) {
                due("it is cut", x.when(t, what), NONE);
            }
        }
        at("promise 31: WEEKS 1 .. 31 by which it can be");
        WeekFoot y = written("week 0 to 31 by 0;thing 0 in 10 is 5,in 12 is 5 half");
        due("as long or shorter behind it: any week", y.when(0, 0), 31);
        y.entry(0, 11, 4, WHOLE);
        due("4 in week 11", y.when(0, 0), 1);
        due("in week 11", y.when(0, 1), 11);
        y.entry(0, 9, 4, EXACT);
        due("4 ahead of 5", y.when(0, 0), 0);
    }

    // ------------------------------------------------------------ the told world, the year

    private static void firstThatIsNotSo() {
        at("promise 34: NONE (none, too)");
        WeekFoot x = new WeekFoot();
        due("no entries", x.judge(0), NONE);
        due("how many", x.judge(1), 0);
        due("fits", x.judge(2), 1);
        x.week(0, 0);
        for (int e = 0; e < 24; e++) {
            x.entry(0, 0, 2, EXACT);
        }
        due("the first", x.judge(0), 0);
        due("all", x.judge(1), 24);
        for (int e = 0; e < 23; e++) {
            x.counts(e, 0);
        }
        due("the last alone", x.judge(0), 23);
        due("how many", x.judge(1), 1);
        at("promise 34: whether the TOLD WORLD FITS, by SHORTER and CUTS, too");
        WeekFoot y = new WeekFoot();
        y.shorter(0, 1);
        due("alike feet", y.judge(2), 0);
        due("no entry is otherwise", y.judge(0), NONE);
        y.tell(12, 99);
        due("less by one", y.judge(2), 1);
        y.cut(5, 31);
        due("as long behind the cut", y.judge(2), 1);
        y.tell(11, 101);
        due("longer behind the cut", y.judge(2), 0);
        due("no entry is otherwise", y.judge(1), 0);
    }

    private static void aheadOfAnyYear() {
        at("promises 36, 37: NONE ahead of any YEAR, and behind one that was refused");
        WeekFoot x = new WeekFoot();
        for (int round = 0; round < 2; round++) {
            for (int what : new int[] {0, 1, 2, 33}) {
                due("trade(" + what + ")", x.trade(what), NONE);
            }
            for (int t = 0; t < 6; t++) {
                due("told(" + t + ")", x.told(t), NONE);
            }
            x.year(0, 0, 100);
        }
        x.year(0, 0, 1);
        due("told", x.told(5), 32);
        due("keeper", x.trade(33), drawn(0)[31]);
    }

    private static void gainOfCutThings() {
        at("promise 35: LAND as long as a THING (not CUT)");
        WeekFoot x = new WeekFoot();
        x.tell(0, 1000);
        x.tell(6, 1);
        x.tell(12, 50);
        int gain = x.year(11, 0, 3);
        due("20 feet for 10", gain, 3 * 10);
        x.cut(0, 1);
        due("as long as it is not cut", x.year(11, 0, 3), gain);
        due("price by price", x.year(11, 0, 99), gain / 3 * 99);
        due("price by price", x.year(11, 0, 1), gain / 3);
        at("promise 35: WHOLE feet are paid");
        x.tell(0, 149);
        x.tell(12, 75);
        due("1 and 1", x.year(11, 0, 99), 0);
        x.tell(0, 150);
        due("2 and 1", x.year(11, 0, 99), 99);
    }

    private static void boughtInTheFirstWeek() {
        at("promise 36: the WEEK of buying, of selling, from the first week to the last");
        for (int seed = 0; seed < 40; seed++) {
            int[] keepers = drawn(seed);
            WeekFoot x = new WeekFoot();
            x.tell(4, 1000);
            x.tell(12 + keepers[0], 200);
            int first = 1;
            while (keepers[first] == keepers[0]) {
                first++;
            }
            due("5 more", x.year(seed, 4, 1), 5);
            due("buying", x.trade(0), 0);
            due("selling", x.trade(1), first);
        }
        int seed = 0;
        while (isAmong(drawn(seed), drawn(seed)[31])) {
            seed++;
        }
        WeekFoot x = new WeekFoot();
        x.tell(4, 1000);
        x.tell(12 + drawn(seed)[31], 50);
        due("10 more", x.year(seed, 4, 1), 10);
        due("buying", x.trade(0), 0);
        due("selling in the last week alone", x.trade(1), 31);
    }

    /** Whether a keeper has a week ahead of the last one. */
    private static boolean isAmong(int[] keepers, int keeper) {
        for (int w = 0; w < 31; w++) {
            if (keepers[w] == keeper) {
                return true;
            }
        }
        return false;
    }

    private static void toldByTheLatestYear() {
        at("promise 37: CUT, from its WEEK on; in the latest YEAR");
        WeekFoot x = new WeekFoot();
        x.tell(0, 999);
        x.tell(6, 199);
        x.year(1, 5, 1);
        due("not cut: 9 each", x.told(0), 9 * 32);
        x.cut(0, 1);
        due("cut in week 1", x.told(0), 9 + 31);
        x.cut(0, 31);
        due("cut in week 31", x.told(0), 9 * 31 + 1);
        x.tell(6, 99);
        due("less than a foot", x.told(0), 9 * 31);
        int[] keepers = drawn(2);
        x.tell(12 + keepers[31], 1);
        x.year(2, 5, 1);
        int sum = 99;
        for (int w = 0; w < 31; w++) {
            sum += keepers[w] == keepers[31] ? 999 : 9;
        }
        due("by another year", x.told(0), sum);
    }

    // ------------------------------------------------------------ images, rows

    private static void imagesOfNothing() {
        at("promises 38, 39: IMAGE k is kept; -2 it was not kept");
        WeekFoot x = new WeekFoot();
        due("not kept", x.back(0), -2);
        due("not kept", x.back(1), -2);
        due("kept", x.image(1), 0);
        due("still not kept", x.back(0), -2);
        due("kept", x.back(1), 0);
        x.week(0, 1);
        due("kept", x.image(0), 0);
        due("the other one", x.back(1), 0);
        due("nothing is known", x.count(3), 0);
        due("the first", x.back(0), 0);
        due("one is known", x.count(3), 1);
        due("kept over another one", x.image(1), 0);
        x.week(0, NONE);
        due("back", x.back(1), 0);
        due("one is known", x.count(3), 1);
        at("promise 39: all that it keeps is as it was then, with what is full");
        WeekFoot full = withEntries(24);
        full.image(0);
        full.back(0);
        due("no room", full.entry(0, 0, 1, 0), -5);
        WeekFoot empty = new WeekFoot();
        empty.image(0);
        for (int e = 0; e < 24; e++) {
            empty.entry(0, 0, 1, 0);
        }
        due("no room", empty.entry(0, 0, 1, 0), -5);
        empty.back(0);
        due("no entry any more", empty.of(0, 0), NONE);
        due("no such entry", empty.counts(0, 1), -2);
        due("room again", empty.entry(0, 0, 1, 0), 0);
    }

    private static void blurredBehindOthers() {
        at("promise 11: in the latest row() that was not REFUSED (0 ahead of any)");
        WeekFoot x = new WeekFoot();
        due("ahead of any", x.blurred(), 0);
        due("refused", x.row(), -6);
        due("behind one that was refused", x.blurred(), 0);
        due("none came", rowOf(x, 9, 9, 9, 9, 9), 0);
        due("two", x.blurred(), 2);
        due("refused", x.row(), -6);
        due("still two", x.blurred(), 2);
        bookOf(x, "week 0 by 9");
        due("a book leaves it", x.blurred(), 2);
        due("one came", rowOf(x, 0, 0, 1, 0), 1);
        due("none", x.blurred(), 0);
        at("promise 10: the TAPE is empty then");
        due("bytes", x.count(5), 0);
        x.feed(0, 0, 0, 0, 0);
        x.end(0);
        due("an ended tape is empty", x.row(), -6);
    }

    private static void lastCall() {
        at("An object is used for at most 512 calls after it has been made");
        WeekFoot refused = new WeekFoot();
        WeekFoot changed = new WeekFoot();
        int was = NONE;
        for (int call = 1; call < 512; call++) {
            due("call " + call, refused.week(32, 0), -1);
            due("call " + call, changed.week(31, call % 5 - 1), was);
            was = call % 5 - 1;
        }
        due("the 512th: how many were refused", refused.count(6), 511);
        due("the 512th: what it was", changed.week(31, NONE), was);
    }
}
