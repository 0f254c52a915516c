/** For each promise of the document: ordinary inputs, its edges, wrong inputs. */
public final class PromiseTests extends Desk {
    public static void main(String[] args) {
        newObject();
        weeks();
        cuts();
        shorters();
        entries();
        counting();
        ofEntries();
        feeding();
        ending();
        rows();
        rowsWithoutRoom();
        blurredOnes();
        books();
        booksWithoutRoom();
        faults();
        fitting();
        fittingRounds();
        betweens();
        betweensByCut();
        greatestBetweens();
        sureOnes();
        feetOfLengths();
        parts();
        laid();
        areas();
        oneMore();
        couldNumbers();
        asking();
        datesOfTold();
        joinedOnes();
        groupsOfThem();
        cores();
        wrongOnes();
        whoseWeeks();
        couldWeeks();
        whenCut();
        toldWorld();
        saying();
        judging();
        years();
        trades();
        toldFeet();
        imagesKept();
        countsOfAll();
        statuses();
        finish();
    }

    // ------------------------------------------------------------ 1 .. 7: what is written

    private static void newObject() {
        at("promise 1");
        WeekFoot x = new WeekFoot();
        for (int what = 0; what <= 10; what++) {
            due("count(" + what + ")", x.count(what), 0);
        }
        due("NONE", WeekFoot.NONE, -1);
        due("fits", x.fits(), 1);
        due("status", x.status(), 0);
        due("fault", x.fault(), NONE);
        due("blurred", x.blurred(), 0);
        due("trade", x.trade(2), NONE);
        for (int w = 0; w < 32; w++) {
            due("week " + w, x.week(w, NONE), NONE);
        }
    }

    private static void weeks() {
        at("promise 2");
        WeekFoot x = new WeekFoot();
        due("week(0, 3)", x.week(0, 3), NONE);
        due("week(0, 0)", x.week(0, 0), 3);
        due("week(31, 2)", x.week(31, 2), NONE);
        due("known", x.count(3), 2);
        due("week(0, NONE)", x.week(0, NONE), 0);
        due("known", x.count(3), 1);
        due("status", x.status(), 0);
        int[][] bad = {{-1, 0}, {32, 0}, {0, 4}, {0, -2}, {Integer.MIN_VALUE, 0}, {0, Integer.MAX_VALUE}};
        for (int[] b : bad) {
            due("week(" + b[0] + ", " + b[1] + ")", x.week(b[0], b[1]), -1);
            due("status", x.status(), -1);
        }
        due("refused", x.count(6), bad.length);
        due("still known", x.count(3), 1);
    }

    private static void cuts() {
        at("promise 3");
        WeekFoot x = new WeekFoot();
        due("cut(0, 1)", x.cut(0, 1), NONE);
        due("cut(0, 31)", x.cut(0, 31), 1);
        due("cut(5, 7)", x.cut(5, 7), NONE);
        due("cut ones", x.count(4), 2);
        due("cut(0, NONE)", x.cut(0, NONE), 31);
        due("cut ones", x.count(4), 1);
        int[][] bad = {{-1, 1}, {6, 1}, {0, 0}, {0, 32}, {0, -2}};
        for (int[] b : bad) {
            due("cut(" + b[0] + ", " + b[1] + ")", x.cut(b[0], b[1]), -1);
            due("status", x.status(), -1);
        }
        due("cut ones", x.count(4), 1);
    }

    private static void shorters() {
        at("promise 4");
        WeekFoot x = new WeekFoot();
        due("shorter(0, 1)", x.shorter(0, 1), 1);
        due("shorter(1, 0)", x.shorter(1, 0), 2);
        due("shorter(0, 1)", x.shorter(0, 1), -3);
        due("status", x.status(), -3);
        due("shorter(2, 2)", x.shorter(2, 2), -1);
        due("shorter(4, 2)", x.shorter(4, 2), -1);
        due("shorter(2, -1)", x.shorter(2, -1), -1);
        due("shorter(0, 2)", x.shorter(0, 2), 3);
        due("shorter(0, 3)", x.shorter(0, 3), 4);
        due("shorter(1, 2)", x.shorter(1, 2), 5);
        due("shorter(1, 3)", x.shorter(1, 3), 6);
        due("shorter(2, 3)", x.shorter(2, 3), -5);
        due("status", x.status(), -5);
        due("told already, without room", x.shorter(1, 3), -3);
        due("the same one, without room", x.shorter(3, 3), -1);
        due("how many", x.count(2), 6);
        due("refused", x.count(6) * 100 + x.count(8) * 10 + x.count(9), 421);
    }

    private static void entries() {
        at("promise 5");
        WeekFoot x = new WeekFoot();
        int[][] bad = {{-1, 0, 1, 0}, {6, 0, 1, 0}, {0, -1, 1, 0}, {0, 32, 1, 0}, {0, 0, 0, 0},
            {0, 0, 100, 0}, {0, 0, 1, -1}, {0, 0, 1, 3}};
        for (int[] b : bad) {
            due("a bad entry", x.entry(b[0], b[1], b[2], b[3]), -1);
        }
        due("entries", x.count(0), 0);
        for (int e = 0; e < 24; e++) {
            due("entry " + e, x.entry(e % 6, e, 1 + 4 * e, e % 3), e);
        }
        due("no room", x.entry(0, 0, 1, 0), -5);
        due("status", x.status(), -5);
        due("bad, without room", x.entry(0, 0, 0, 0), -1);
        due("entries", x.count(0), 24);
        due("all count", x.count(1), 24);
    }

    private static void counting() {
        at("promise 6");
        WeekFoot x = new WeekFoot();
        x.entry(0, 0, 5, EXACT);
        x.entry(0, 0, 6, EXACT);
        due("counts(1, 0)", x.counts(1, 0), 1);
        due("counts(1, 0)", x.counts(1, 0), 0);
        due("those that count", x.count(1), 1);
        due("counts(1, 1)", x.counts(1, 1), 0);
        due("those that count", x.count(1), 2);
        due("counts(2, 0)", x.counts(2, 0), -2);
        due("status", x.status(), -2);
        due("counts(23, 1)", x.counts(23, 1), -2);
        due("counts(2, 2)", x.counts(2, 2), -1);
        due("counts(0, -1)", x.counts(0, -1), -1);
        due("counts(0, 2)", x.counts(0, 2), -1);
        // by the document's words a number that no entry can have is one that can't be
        due("counts(-1, 0)", x.counts(-1, 0), -1);
        due("counts(24, 0)", x.counts(24, 0), -1);
        due("those that count", x.count(1), 2);
    }

    private static void ofEntries() {
        at("promise 7");
        WeekFoot x = new WeekFoot();
        x.entry(3, 9, 77, HALF);
        x.entry(3, 10, 7, WHOLE);
        int[] want = {3, 9, 77, 2, 1, 3};
        for (int what = 0; what < 6; what++) {
            due("of(0, " + what + ")", x.of(0, what), want[what]);
        }
        x.cut(3, 10);
        due("ahead of the cut", x.of(0, 5), 3);
        due("from the cut's week on", x.of(1, 5), 9);
        x.cut(3, 9);
        due("in the cut's week", x.of(0, 5), 9);
        x.counts(0, 0);
        due("struck", x.of(0, 4), 0);
        due("of(0, 6)", x.of(0, 6), NONE);
        due("of(0, -1)", x.of(0, -1), NONE);
        due("of(2, 0)", x.of(2, 0), NONE);
        due("of(-1, 0)", x.of(-1, 0), NONE);
        due("nothing refused", x.status(), 0);
    }

    // ------------------------------------------------------------ 8 .. 13: the tape

    private static void feeding() {
        at("promise 8");
        WeekFoot x = new WeekFoot();
        // highest byte first: thing 1, week 2, number 3, kind 1
        due("feed", x.feed(0x01020301, 0x050F6300, 0xFF000000, 0, 0), 20);
        due("row", x.row(), 2);
        due("thing", x.of(0, 0), 1);
        due("week", x.of(0, 1), 2);
        due("number", x.of(0, 2), 3);
        due("kind", x.of(0, 3), 1);
        due("thing", x.of(1, 0), 5);
        due("number", x.of(1, 2), 99);
        for (int i = 1; i <= 20; i++) {
            due("feed " + i, x.feed(0, 0, 0, 0, 0), 20 * i);
        }
        due("feed beyond", x.feed(0, 0, 0, 0, 0), NONE);
        due("bytes", x.count(5), 400);
        x.end(381);
        due("feed beyond", x.feed(0, 0, 0, 0, 0), NONE);
        x.end(380);
        due("feed to the last", x.feed(0, 0, 0, 0, 0), 400);
        due("nothing refused", x.count(6), 0);
    }

    private static void ending() {
        at("promise 9");
        WeekFoot x = new WeekFoot();
        due("end(0)", x.end(0), 0);
        due("end(1)", x.end(1), NONE);
        x.feed(1, 2, 3, 4, 5);
        due("end(20)", x.end(20), 20);
        due("end(21)", x.end(21), NONE);
        due("end(-1)", x.end(-1), NONE);
        due("bytes", x.count(5), 20);
        due("end(7)", x.end(7), 7);
        due("bytes", x.count(5), 7);
        due("end(8)", x.end(8), NONE);
        due("feed behind it", x.feed(1, 2, 3, 4, 5), 27);
        due("status", x.status(), 0);
    }

    private static void rows() {
        at("promise 10");
        WeekFoot x = new WeekFoot();
        due("row of nothing", x.row(), -6);
        due("status", x.status(), -6);
        x.feed(0x00000100, 0x051F6302, 0x06000100, 0x00200100, 0x00000000);
        x.feed(0x00006400, 0x00000103, 0x0101FF00, 0x80000100, 0x02020202);
        due("row", x.row(), 3);
        due("status", x.status(), 0);
        due("blurred", x.blurred(), 7);
        due("bytes", x.count(5), 0);
        due("entries", x.count(0), 3);
        due("the last one's number", x.of(2, 2), 2);
        due("row of nothing", x.row(), -6);
        x.feed(0x00000100, 0, 0, 0, 0);
        x.end(3);
        due("the tape ends within", x.row(), 0);
        due("blurred", x.blurred(), 1);
        due("status", x.status(), 0);
        due("refused", x.count(10), 2);
    }

    private static void rowsWithoutRoom() {
        WeekFoot x = new WeekFoot();
        for (int e = 0; e < 22; e++) {
            x.entry(0, 0, 1, 0);
        }
        x.feed(0x01010101, 0x09010101, 0x01010201, 0x01010301, 0x01010401);
        due("row", x.row(), 2);
        due("blurred", x.blurred(), 3);
        due("entries", x.count(0), 24);
        due("the last one's number", x.of(23, 2), 2);
    }

    private static void blurredOnes() {
        at("promise 11");
        WeekFoot x = new WeekFoot();
        due("ahead of any", x.blurred(), 0);
        x.feed(0, 0, 0, 0, 0);
        x.row();
        due("all of them", x.blurred(), 5);
        x.row();
        due("a row that was refused", x.blurred(), 5);
        x.feed(0x00000100, 0, 0, 0, 0);
        x.image(0);
        x.end(4);
        x.row();
        due("none", x.blurred(), 0);
        x.feed(0, 0, 0, 0, 0);
        x.end(5);
        x.row();
        x.back(0);
        due("images do not keep it", x.blurred(), 2);
    }

    private static void books() {
        at("promise 12");
        WeekFoot x = new WeekFoot();
        String text = "week 0to 3by 2;week 2 by nobody ; keeper 1 below 3;thing 4 cut in 31;"
                + "thing 5in 0is 99,in 31 is 1whole , in 7 is 05 half,in 8 is 4exact;thing 0 cut never";
        due("clauses", bookOf(x, text), 6);
        due("fault", x.fault(), NONE);
        due("bytes", x.count(5), 0);
        due("known weeks", x.count(3), 3);
        due("week 2", x.week(2, NONE), NONE);
        due("week 3", x.week(3, NONE), 2);
        due("shorter", x.count(2), 1);
        due("told already", x.shorter(1, 3), -3);
        due("cut", x.cut(4, NONE), 31);
        due("entries", x.count(0), 4);
        int[][] want = {{5, 0, 99, 0}, {5, 31, 1, 1}, {5, 7, 5, 2}, {5, 8, 4, 0}};
        for (int e = 0; e < 4; e++) {
            for (int what = 0; what < 4; what++) {
                due("of(" + e + ", " + what + ")", x.of(e, what), want[e][what]);
            }
        }
        x.cut(3, 5);
        due("never", bookOf(x, "thing 3 cut never"), 1);
        due("not cut", x.count(4), 0);
        due("blanks around", bookOf(x, "  week 31 to 31 by 3  "), 1);
        due("the later clause stands", bookOf(x, "week 0 to 9 by 1;week 0 to 9 by 2"), 2);
        due("week 9", x.week(9, NONE), 2);
        due("nothing of it", bookOf(x, "week 0 by 3;week 1 by 4"), -6);
        due("week 0", x.week(0, NONE), 2);
        due("bytes", x.count(5), 0);
        due("empty", x.book(), -6);
        due("fault at the end", x.fault(), 0);
        dueFault(x, "     ", 5);
        due("status", x.status(), -6);
        due("refused", x.count(10), 3);
    }

    private static void booksWithoutRoom() {
        WeekFoot x = new WeekFoot();
        for (int e = 0; e < 22; e++) {
            x.entry(0, 0, 1, 0);
        }
        dueFault(x, "thing 1 in 0 is 1,in 0 is 2;thing 2 cut in 3;thing 1 in 0 is 3", 53);
        due("entries", x.count(0), 22);
        dueFault(x, "thing 1 in 0 is 1,in 0 is 2, in 99", 29);
        due("to the last", bookOf(x, "thing 1 in 0 is 1,in 0 is 2;thing 1 cut in 3"), 2);
        due("entries", x.count(0), 24);
        dueFault(x, "thing 1 in", 8);
        dueFault(x, "thing 1 on", 8);
        due("other clauses", bookOf(x, "thing 1 cut in 4;week 1 by 1"), 2);
        String five = "keeper 0 below 1;keeper 0 below 2;keeper 0 below 3;keeper 1 below 2;keeper 1 below 3";
        due("five", bookOf(x, five), 5);
        dueFault(x, "keeper 2 below 3;keeper 3 below 2", 17);
        due("shorter", x.count(2), 5);
        due("told already is none more", bookOf(x, five + ";keeper 2 below 3;keeper 2 below 3"), 7);
        due("shorter", x.count(2), 6);
        dueFault(x, "keeper 0 below 1; keeper 3 below 2 x", 18);
        dueFault(x, "keeper 3 below 4", 15);
        dueFault(x, "keeper 3 below 3", 15);
    }

    private static void faults() {
        at("promise 13");
        WeekFoot x = new WeekFoot();
        due("ahead of any", x.fault(), NONE);
        Object[][] texts = {
            {"weeks 0 by 0", 0}, {"Week 0 by 0", 0}, {" ;", 1}, {"week", 4}, {"week  ", 6}, {"week x", 5},
            {"week 32 by 0", 5}, {"week 99999999999999999999 by 0", 5}, {"week 4294967296 by 0", 5},
            {"week 5 to 4 by 0", 10}, {"week 5 to 32 by 0", 10}, {"week 5 too 6 by 0", 7}, {"week 5 6", 7},
            {"week 5 by 4", 10}, {"week 5 by none", 10}, {"week 5 bynobody", 7}, {"week 5 by nobody 3", 17},
            {"week 5 by 0 to 6", 12}, {"week 5 by 0;", 12}, {"week 5 by 0; ", 13}, {"week 5 by 0;;", 12},
            {"week 5 by 0,week 6 by 0", 11}, {"week 5 by 0\t", 11}, {"week\n5 by 0", 4}, {"week -1 by 0", 5},
            {"keeper 4 below 0", 7}, {"keeper 0 above 1", 9}, {"keeper 0 below 0", 15}, {"keeper 0 below 00", 15},
            {"keeper 0 below", 14}, {"thing 6 cut never", 6}, {"thing 0", 7}, {"thing 0 cut", 11},
            {"thing 0 cut in 0", 15}, {"thing 0 cut in 32", 15}, {"thing 0 cut on 3", 12},
            {"thing 0 cut never in 3", 18}, {"thing 0 in 32 is 1", 11}, {"thing 0 in 0 was 1", 13},
            {"thing 0 in 0 is 0", 16}, {"thing 0 in 0 is 100", 16}, {"thing 0 in 0 is one", 16},
            {"thing 0 in 0 is 5 halves", 18}, {"thing 0 in 0 is 5 half half", 23}, {"thing 0 in 0 is 5,", 18},
            {"thing 0 in 0 is 5,6", 18}, {"thing 0 in 0 is 5, cut in 3", 19}, {"thing 0 in 0 is 5.", 17},
            {"week 5 to", 9}, {"week 5 by", 9}, {"week 5 by ", 10}, {"week 5 byz 0", 7}, {"week 5 byA", 9},
            {"keeper 0 below 1 2", 17}, {"keeper", 6}, {"thing", 5}, {"thing 0 cut in", 14}, {"thing 0 in 0 is", 15},
            {"thing 0 in 0", 12}, {"thing 0 in", 10}, {"thing 0 in 0 is 5 in 1 is 6", 18}, {"thing 0 in 0 is 5 ; ; x", 20}, {"\u00e9", 0}};
        for (Object[] t : texts) {
            dueFault(x, (String) t[0], (Integer) t[1]);
        }
        due("entries", x.count(0), 0);
        due("known", x.count(3), 0);
        due("refused", x.count(10), texts.length);
        x.image(0);
        x.back(0);
        due("images do not keep it", x.fault(), 0);
        due("taken", bookOf(x, "week 0 by 0"), 1);
        due("without", x.fault(), NONE);
    }

    // ------------------------------------------------------------ 14 .. 18: lengths beside lengths

    private static void fitting() {
        at("promise 14");
        WeekFoot x = withKeepers();
        x.entry(0, 0, 5, EXACT);
        due("one", x.fits(), 1);
        x.entry(0, 0, 4, WHOLE);
        due("below 5", x.fits(), 0);
        x.counts(1, 0);
        due("struck", x.fits(), 1);
        x.entry(0, 0, 5, WHOLE);
        x.entry(0, 0, 5, HALF);
        due("all of 5", x.fits(), 1);
        x.entry(0, 9, 77, EXACT);
        due("of a week whose keeper is not known", x.fits(), 1);
        x.week(9, 0);
        due("known", x.fits(), 0);
        WeekFoot y = withKeepers();
        y.entry(0, 0, 4, HALF);
        y.entry(0, 0, 4, WHOLE);
        y.entry(0, 0, 5, HALF);
        due("4.5 is not below 4.5", y.fits(), 0);
        y.counts(0, 0);
        due("4.5 is 5 by the half", y.fits(), 1);
    }

    private static void fittingRounds() {
        // 2 of 0 is 1 of 1, 2 of 1 is 1 of 2, 2 of 2 is 1 of 3, so thing 3 must be 8 of 0 to 1 of 3
        WeekFoot x = withKeepers();
        for (int t = 0; t < 3; t++) {
            x.entry(t, t, 2, EXACT);
            x.entry(t, t + 1, 1, EXACT);
        }
        x.entry(3, 3, 1, EXACT);
        x.entry(3, 0, 8, EXACT);
        due("round of four", x.fits(), 1);
        x.counts(7, 0);
        x.entry(3, 0, 7, WHOLE);
        due("8 is not below 8", x.fits(), 0);
        x.counts(8, 0);
        x.entry(3, 0, 8, WHOLE);
        due("8 is from 8 on", x.fits(), 1);
        x.shorter(0, 3);
        due("shorter", x.fits(), 1);
        x.shorter(2, 1);
        due("not shorter", x.fits(), 0);
        WeekFoot y = new WeekFoot();
        y.shorter(0, 1);
        y.shorter(1, 2);
        y.shorter(2, 3);
        due("a row of feet", y.fits(), 1);
        y.shorter(3, 0);
        due("a round of feet", y.fits(), 0);
        WeekFoot z = withKeepers();
        z.entry(0, 0, 4, EXACT);
        z.entry(0, 1, 4, EXACT);
        due("alike feet", z.fits(), 1);
        z.shorter(0, 1);
        due("alike is not shorter", z.fits(), 0);
    }

    private static void betweens() {
        at("promise 15");
        WeekFoot x = withKeepers();
        x.entry(0, 0, 3, WHOLE);
        x.entry(0, 1, 7, EXACT);
        // thing 0 is 7 of 1 and from 3 to below 4 of 0
        due("least", x.between(0, 12, 0), 3000000);
        due("greatest", x.between(0, 12, 1), 4000000);
        due("least come to", x.between(0, 12, 2), 1);
        due("greatest come near to", x.between(0, 12, 3), 0);
        due("foot by foot, least", x.between(12, 13, 0), 1750000);
        due("come near to", x.between(12, 13, 2), 0);
        due("foot by foot, greatest", x.between(12, 13, 1), 2333333);
        due("come to", x.between(12, 13, 3), 1);
        due("turned, least", x.between(13, 12, 0), 428571);
        due("turned, greatest", x.between(13, 12, 1), 571428);
        due("foot by thing", x.between(13, 0, 0), 142857);
        due("foot by thing", x.between(13, 0, 1), 142857);
        due("without", x.between(0, 14, 0), 0);
        due("without", x.between(0, 14, 1), NONE);
        due("without", x.between(0, 14, 2), 0);
        due("without", x.between(0, 14, 3), 0);
        for (int length : new int[] {0, 5, 12, 15}) {
            due("itself, least", x.between(length, length, 0), 1000000);
            due("itself, greatest", x.between(length, length, 1), 1000000);
            due("itself, come to", x.between(length, length, 2), 1);
            due("itself, come to", x.between(length, length, 3), 1);
        }
        int[][] bad = {{-1, 0, 0}, {16, 0, 0}, {0, -1, 0}, {0, 16, 0}, {6, 0, 0}, {0, 11, 0}, {6, 6, 0},
            {0, 0, -1}, {0, 0, 4}};
        for (int[] b : bad) {
            due("bad", x.between(b[0], b[1], b[2]), NOTHING);
        }
        x.entry(0, 0, 9, EXACT);
        due("it can't be", x.between(0, 12, 0), NOTHING);
        due("it can't be", x.between(0, 0, 0), NOTHING);
        due("nothing refused", x.status(), 0);
    }

    private static void betweensByCut() {
        WeekFoot x = withKeepers();
        x.cut(0, 2);
        due("cut one, greatest", x.between(6, 0, 1), 1000000);
        due("come to", x.between(6, 0, 3), 1);
        due("cut one, least", x.between(6, 0, 0), 0);
        due("the whole, least", x.between(0, 6, 0), 1000000);
        due("the whole, greatest", x.between(0, 6, 1), NONE);
        x.week(4, 0);
        x.entry(0, 0, 10, WHOLE);
        x.entry(0, 4, 6, EXACT);
        due("the rest by the whole, least", x.between(6, 0, 0), 545454);
        due("come near to", x.between(6, 0, 2), 0);
        due("the rest by the whole, greatest", x.between(6, 0, 1), 600000);
        due("come to", x.between(6, 0, 3), 1);
        x.counts(1, 0);
        due("the rest below the whole", x.between(6, 12, 1), 11000000);
        due("come near to", x.between(6, 12, 3), 0);
        due("the rest without least", x.between(6, 12, 0), 0);
        x.counts(0, 0);
        x.counts(1, 1);
        due("the whole above the rest", x.between(0, 12, 0), 6000000);
        due("the whole without bound", x.between(0, 12, 1), NONE);
        x.entry(0, 0, 5, WHOLE);
        due("longer behind the cut", x.fits(), 0);
    }

    private static void greatestBetweens() {
        WeekFoot x = withKeepers();
        // each foot is 99 of the next one
        for (int t = 0; t < 3; t++) {
            x.entry(t, t, 1, EXACT);
            x.entry(t, t + 1, 99, EXACT);
        }
        x.entry(3, 0, 99, EXACT);
        due("at most", x.between(3, 15, 1), 2000000000);
        due("at most", x.between(3, 15, 0), 2000000000);
        due("come to all the same", x.between(3, 15, 2), 1);
        due("turned", x.between(15, 3, 1), 0);
        due("upper", x.part(3, 15, 0), 96059601L);
        due("lower", x.part(15, 3, 1), 96059601L);
        due("feet", x.feet(3, 3, 0), 2000);
        due("feet", x.feet(3, 3, 1), 2000);
        due("laid", x.lay(3, 3, 3, 3, 0), 6000);
        due("laid", x.lay(3, 3, NONE, 3, 1), 6000);
        due("area", x.area(3, 3, 3, 0), 4000000);
        due("area", x.area(3, 3, 3, 1), 4000000);
    }

    private static void sureOnes() {
        at("promise 16");
        WeekFoot x = withKeepers();
        x.entry(0, 0, 3, WHOLE);
        x.entry(1, 0, 4, WHOLE);
        x.entry(2, 0, 4, EXACT);
        x.entry(3, 0, 4, EXACT);
        due("less, without touching", x.sure(0, 1), 2);
        due("greater", x.sure(1, 0), 1);
        due("less than what it only comes near to", x.sure(0, 2), 2);
        due("may be alike", x.sure(1, 2), 0);
        due("alike", x.sure(2, 3), 3);
        due("itself", x.sure(4, 4), 3);
        due("not tied", x.sure(4, 0), 0);
        x.shorter(0, 1);
        due("shorter", x.sure(12, 13), 2);
        due("longer", x.sure(13, 12), 1);
        x.cut(4, 5);
        due("cut, may be alike", x.sure(4, 10), 0);
        due("not there", x.sure(6, 0), NOTHING);
        due("no length", x.sure(0, 16), NOTHING);
        due("no length", x.sure(-1, 0), NOTHING);
        x.shorter(1, 0);
        due("it can't be", x.sure(0, 1), NOTHING);
    }

    private static void feetOfLengths() {
        at("promise 17");
        WeekFoot x = withKeepers();
        x.entry(0, 0, 3, HALF);
        due("fewest", x.feet(0, 0, 0), 2);
        due("most", x.feet(0, 0, 1), 3);
        x.entry(1, 0, 3, WHOLE);
        due("fewest", x.feet(1, 0, 0), 3);
        due("4 is only come near to", x.feet(1, 0, 1), 3);
        x.entry(2, 0, 4, EXACT);
        due("fewest", x.feet(2, 0, 0), 4);
        due("most", x.feet(2, 0, 1), 4);
        x.shorter(0, 1);
        due("by a longer foot", x.feet(2, 1, 0), 0);
        due("by a longer foot, below 4", x.feet(2, 1, 1), 3);
        due("without least", x.feet(5, 0, 0), 0);
        due("without bound", x.feet(5, 0, 1), NONE);
        x.shorter(2, 0);
        due("by a shorter foot", x.feet(2, 2, 0), 4);
        due("by a shorter foot", x.feet(2, 2, 1), NONE);
        due("not there", x.feet(6, 0, 0), NOTHING);
        due("a foot", x.feet(12, 0, 0), NOTHING);
        due("no keeper", x.feet(0, 4, 0), NOTHING);
        due("no keeper", x.feet(0, -1, 0), NOTHING);
        due("no such what", x.feet(0, 0, 2), NOTHING);
        x.cut(2, 1);
        due("cut one", x.feet(8, 0, 1), 4);
        x.entry(2, 0, 5, EXACT);
        due("it can't be", x.feet(0, 0, 0), NOTHING);
    }

    private static void parts() {
        at("promise 18");
        WeekFoot x = withKeepers();
        x.entry(0, 0, 6, EXACT);
        x.entry(0, 1, 4, EXACT);
        x.entry(1, 1, 10, EXACT);
        x.entry(2, 1, 10, WHOLE);
        due("upper", x.part(12, 13, 0), 2);
        due("lower", x.part(12, 13, 1), 3);
        due("upper", x.part(1, 0, 0), 5);
        due("lower", x.part(1, 0, 1), 2);
        due("itself", x.part(2, 2, 1), 1);
        due("not the same", x.part(2, 1, 0), 0);
        due("not the same", x.part(2, 1, 1), 0);
        due("not tied", x.part(5, 1, 0), 0);
        due("not there", x.part(6, 0, 0), NOTHING);
        due("no such what", x.part(0, 0, 2), NOTHING);
        due("no such what", x.part(0, 0, -1), NOTHING);
        due("no length", x.part(0, 16, 0), NOTHING);
        x.cut(3, 1);
        x.entry(3, 0, 5, EXACT);
        x.week(5, 0);
        x.entry(3, 5, 5, WHOLE);
        due("the same by its ends", x.part(9, 3, 0), 1);
        due("the same by its ends", x.part(9, 12, 0), 5);
        x.entry(0, 0, 7, EXACT);
        due("it can't be", x.part(0, 0, 0), NOTHING);
    }

    // ------------------------------------------------------------ 19 .. 24: feet together, numbers

    private static void laid() {
        at("promise 19");
        WeekFoot x = withKeepers();
        x.entry(0, 0, 3, EXACT);
        x.entry(0, 1, 2, EXACT);
        x.entry(1, 1, 1, EXACT);
        x.entry(2, 0, 2, HALF);
        // by keeper 0: 3, 1.5, from 1.5 to below 2.5
        due("two", x.lay(0, 1, NONE, 0, 0), 4);
        due("two", x.lay(0, 1, NONE, 0, 1), 4);
        due("halves make a whole", x.lay(1, 1, NONE, 0, 0), 3);
        due("three", x.lay(0, 1, 1, 0, 1), 6);
        due("thrice", x.lay(1, 1, 1, 0, 0), 4);
        due("least", x.lay(1, 2, NONE, 0, 0), 3);
        due("4 is only come near to", x.lay(1, 2, NONE, 0, 1), 3);
        due("7.5 is only come near to", x.lay(2, 2, 2, 0, 1), 7);
        due("4.5", x.lay(2, 2, 2, 0, 0), 4);
        due("thirds", x.lay(1, 1, 1, 1, 0), 3);
        due("without least", x.lay(0, 5, NONE, 0, 0), 3);
        due("without bound", x.lay(0, 5, NONE, 0, 1), NONE);
        due("by a foot without tie", x.lay(0, 1, 2, 3, 1), NONE);
        due("not there", x.lay(6, 0, NONE, 0, 0), NOTHING);
        due("not there", x.lay(0, 0, 6, 0, 0), NOTHING);
        due("a foot", x.lay(0, 12, NONE, 0, 0), NOTHING);
        due("two must be", x.lay(0, NONE, 1, 0, 0), NOTHING);
        due("two must be", x.lay(NONE, 0, 1, 0, 0), NOTHING);
        due("no length", x.lay(0, 0, -2, 0, 0), NOTHING);
        due("no keeper", x.lay(0, 0, 0, 4, 0), NOTHING);
        due("no such what", x.lay(0, 0, 0, 0, 2), NOTHING);
        WeekFoot y = withKeepers();
        y.entry(0, 0, 1, EXACT);
        y.entry(0, 1, 3, EXACT);
        y.entry(1, 1, 1, EXACT);
        due("three thirds", y.lay(1, 1, 1, 0, 1), 1);
        due("two thirds", y.lay(1, 1, NONE, 0, 1), 0);
        y.entry(0, 0, 2, EXACT);
        due("it can't be", y.lay(1, 1, NONE, 0, 0), NOTHING);
    }

    private static void areas() {
        at("promise 20");
        WeekFoot x = withKeepers();
        x.entry(0, 0, 3, EXACT);
        x.entry(0, 1, 2, EXACT);
        x.entry(1, 1, 1, EXACT);
        x.entry(2, 0, 2, HALF);
        due("4.5", x.area(0, 1, 0, 0), 4);
        due("4.5", x.area(0, 1, 0, 1), 4);
        due("9", x.area(0, 0, 0, 1), 9);
        due("2.25", x.area(2, 2, 0, 0), 2);
        due("below 6.25", x.area(2, 2, 0, 1), 6);
        x.entry(3, 0, 2, WHOLE);
        due("9 is only come near to", x.area(0, 3, 0, 1), 8);
        due("6", x.area(0, 3, 0, 0), 6);
        due("without least", x.area(0, 5, 0, 0), 0);
        due("without bound", x.area(0, 5, 0, 1), NONE);
        due("not there", x.area(0, 6, 0, 0), NOTHING);
        due("a foot", x.area(12, 0, 0, 0), NOTHING);
        due("NONE", x.area(0, NONE, 0, 0), NOTHING);
        due("no keeper", x.area(0, 0, -1, 0), NOTHING);
        due("no such what", x.area(0, 0, 0, 2), NOTHING);
        x.entry(0, 0, 4, EXACT);
        due("it can't be", x.area(0, 0, 0, 0), NOTHING);
    }

    private static void oneMore() {
        at("promise 21");
        WeekFoot x = withKeepers();
        x.entry(0, 0, 5, WHOLE);
        due("nothing new", x.would(0, 0, 5, WHOLE), 1);
        due("can't be", x.would(0, 0, 6, WHOLE), 0);
        due("can't be", x.would(0, 0, 4, WHOLE), 0);
        due("something", x.would(0, 0, 5, HALF), 2);
        due("something", x.would(0, 0, 6, HALF), 2);
        due("can't be", x.would(0, 0, 7, HALF), 0);
        due("something", x.would(0, 0, 5, EXACT), 2);
        due("6 is only come near to", x.would(0, 0, 6, EXACT), 0);
        x.entry(1, 0, 5, EXACT);
        due("nothing new", x.would(1, 0, 5, EXACT), 1);
        due("nothing new", x.would(1, 0, 5, WHOLE), 1);
        due("nothing new", x.would(1, 0, 5, HALF), 1);
        x.shorter(1, 0);
        due("more than 5", x.would(1, 1, 5, WHOLE), 2);
        due("not 5 itself", x.would(1, 1, 5, EXACT), 0);
        due("far above", x.would(1, 1, 99, EXACT), 2);
        due("not tied", x.would(5, 0, 1, EXACT), 2);
        due("no number", x.would(0, 0, 0, EXACT), NOTHING);
        due("no number", x.would(0, 0, 100, EXACT), NOTHING);
        due("no kind", x.would(0, 0, 1, 3), NOTHING);
        due("no kind", x.would(0, 0, 1, -1), NOTHING);
        due("not there", x.would(6, 0, 1, EXACT), NOTHING);
        due("a foot", x.would(12, 0, 1, EXACT), NOTHING);
        due("no keeper", x.would(0, 4, 1, EXACT), NOTHING);
        x.entry(1, 0, 6, EXACT);
        due("it can't be", x.would(0, 0, 5, WHOLE), NOTHING);
    }

    private static void couldNumbers() {
        at("promise 22");
        WeekFoot x = withKeepers();
        x.entry(0, 0, 5, HALF);
        // from 4.5 to below 5.5
        due("wholes", x.numbers(0, 0, WHOLE, 0), 2);
        due("least", x.numbers(0, 0, WHOLE, 1), 4);
        due("greatest", x.numbers(0, 0, WHOLE, 2), 5);
        due("halves", x.numbers(0, 0, HALF, 0), 1);
        due("exact", x.numbers(0, 0, EXACT, 0), 1);
        due("exact", x.numbers(0, 0, EXACT, 1), 5);
        x.entry(1, 0, 1, HALF);
        due("0 is no number", x.numbers(1, 0, WHOLE, 0), 1);
        due("least", x.numbers(1, 0, WHOLE, 1), 1);
        due("not tied", x.numbers(5, 0, EXACT, 0), 99);
        due("least", x.numbers(5, 0, EXACT, 1), 1);
        due("greatest", x.numbers(5, 0, EXACT, 2), 99);
        x.entry(2, 0, 1, EXACT);
        x.entry(2, 1, 2, EXACT);
        x.entry(3, 0, 60, EXACT);
        due("120 is no number", x.numbers(3, 1, WHOLE, 0), 0);
        due("without", x.numbers(3, 1, WHOLE, 1), NONE);
        due("without", x.numbers(3, 1, WHOLE, 2), NONE);
        x.entry(4, 1, 3, EXACT);
        due("1.5 is none exactly", x.numbers(4, 0, EXACT, 0), 0);
        due("without", x.numbers(4, 0, EXACT, 1), NONE);
        due("1.5 is 2 by the half", x.numbers(4, 0, HALF, 1), 2);
        due("only", x.numbers(4, 0, HALF, 2), 2);
        due("no kind", x.numbers(0, 0, 3, 0), NOTHING);
        due("no such what", x.numbers(0, 0, 0, 3), NOTHING);
        due("not there", x.numbers(11, 0, 0, 0), NOTHING);
        due("no keeper", x.numbers(0, 4, 0, 0), NOTHING);
        x.entry(2, 1, 3, EXACT);
        due("it can't be", x.numbers(0, 0, 0, 0), NOTHING);
    }

    private static void asking() {
        at("promise 23");
        WeekFoot x = withKeepers();
        due("the lowest of alike ones", x.ask(0), 0);
        due("the lowest of alike ones", x.ask(1), 0);
        due("how many", x.ask(2), 99);
        for (int t = 0; t < 6; t++) {
            for (int k = 0; k < 4; k++) {
                x.entry(t, k, 50, t == 4 && k == 2 ? HALF : WHOLE);
            }
        }
        // keeper 2's foot may be longer by what thing 4 leaves: 49.5 is 49 by the whole
        due("thing", x.ask(0), 4);
        due("keeper", x.ask(1), 2);
        due("how many", x.ask(2), 2);
        x.cut(5, 4);
        due("a cut one", x.ask(0), 11);
        due("its keeper", x.ask(1), 0);
        due("how many", x.ask(2), 50);
        due("no such what", x.ask(3), NONE);
        due("no such what", x.ask(-1), NONE);
        x.shorter(0, 1);
        x.shorter(1, 0);
        due("it can't be", x.ask(0), NONE);
    }

    private static void datesOfTold() {
        at("promise 24");
        WeekFoot x = new WeekFoot();
        bookOf(x, "week 3 to 6 by 0;week 10 to 11 by 1;week 20 by 2;thing 0 in 3 is 4;thing 0 in 10 is 8");
        due("4 by keeper 0, perhaps by 2", x.dates(0, 4, EXACT, 0), 5);
        due("first", x.dates(0, 4, EXACT, 1), 3);
        due("last", x.dates(0, 4, EXACT, 2), 20);
        due("8 by keeper 1, perhaps by 2", x.dates(0, 8, WHOLE, 0), 3);
        due("first", x.dates(0, 8, WHOLE, 1), 10);
        x.cut(0, 5);
        due("behind the cut it may be as long", x.dates(0, 4, EXACT, 0), 5);
        due("behind the cut it may be less", x.dates(0, 3, EXACT, 0), 3);
        due("from its week on", x.dates(0, 3, EXACT, 1), 5);
        x.week(20, NONE);
        due("not known", x.dates(0, 5, EXACT, 2), NONE);
        due("how many", x.dates(0, 5, EXACT, 0), 0);
        due("first", x.dates(0, 5, EXACT, 1), NONE);
        due("no thing", x.dates(6, 1, 0, 0), NOTHING);
        due("no thing", x.dates(-1, 1, 0, 0), NOTHING);
        due("no number", x.dates(0, 0, 0, 0), NOTHING);
        due("no number", x.dates(0, 100, 0, 0), NOTHING);
        due("no kind", x.dates(0, 1, 3, 0), NOTHING);
        due("no such what", x.dates(0, 1, 0, 3), NOTHING);
        x.entry(0, 3, 5, EXACT);
        due("it can't be", x.dates(0, 4, EXACT, 0), NOTHING);
    }

    // ------------------------------------------------------------ 25 .. 31: what hangs together

    private static void joinedOnes() {
        at("promise 25");
        WeekFoot x = withKeepers();
        due("itself", x.joined(0, 0), 1);
        due("not yet", x.joined(0, 12), 0);
        x.entry(0, 0, 5, WHOLE);
        x.entry(1, 0, 5, WHOLE);
        due("thing to foot", x.joined(0, 12), 1);
        due("thing to thing", x.joined(1, 0), 1);
        x.shorter(0, 3);
        due("foot to foot", x.joined(15, 1), 1);
        x.cut(2, 5);
        due("cut one", x.joined(8, 2), 1);
        due("not the others", x.joined(8, 0), 0);
        x.entry(3, 9, 5, EXACT);
        due("a week that is not known ties nothing", x.joined(3, 12), 0);
        x.week(9, 0);
        due("known", x.joined(3, 12), 1);
        x.entry(0, 0, 50, EXACT);
        due("whatever they tell", x.joined(0, 15), 1);
        // by the document's words entries tie, and one that is struck is an entry
        x.counts(0, 0);
        x.counts(3, 0);
        due("struck", x.joined(0, 12), 1);
        due("not there", x.joined(6, 0), NOTHING);
        due("not there", x.joined(0, 6), NOTHING);
        due("no length", x.joined(16, 0), NOTHING);
        due("no length", x.joined(0, -1), NOTHING);
    }

    private static void groupsOfThem() {
        at("promise 26");
        WeekFoot x = withKeepers();
        due("groups", x.groups(0), 10);
        due("to measure", x.groups(1), 9);
        due("greatest", x.groups(2), 1);
        x.entry(0, 0, 5, WHOLE);
        x.entry(1, 1, 5, WHOLE);
        due("groups", x.groups(0), 8);
        due("greatest", x.groups(2), 2);
        x.entry(1, 0, 5, WHOLE);
        due("groups", x.groups(0), 7);
        due("to measure", x.groups(1), 6);
        due("greatest", x.groups(2), 4);
        x.cut(5, 1);
        due("a cut one is with its whole", x.groups(0), 7);
        x.cut(0, 1);
        due("greatest", x.groups(2), 5);
        for (int t = 0; t < 6; t++) {
            x.entry(t, 0, 5, EXACT);
        }
        x.shorter(2, 0);
        x.shorter(3, 0);
        due("all together", x.groups(0), 1);
        due("nothing to measure", x.groups(1), 0);
        due("greatest", x.groups(2), 12);
        due("no such what", x.groups(3), NONE);
        due("no such what", x.groups(-1), NONE);
    }

    private static void cores() {
        at("promise 27");
        WeekFoot x = withKeepers();
        due("none", x.core(), 0);
        x.entry(0, 0, 5, EXACT);
        x.entry(1, 0, 5, EXACT);
        x.entry(0, 0, 6, EXACT);
        due("the first and the third", x.core(), 5);
        x.entry(1, 0, 6, EXACT);
        due("the first ones are left out", x.core(), 2 + 8);
        x.counts(1, 0);
        due("struck ones are none", x.core(), 1 + 4);
        x.counts(2, 0);
        due("it can be", x.core(), 0);
        WeekFoot y = withKeepers();
        y.entry(0, 0, 2, EXACT);
        y.entry(0, 1, 2, EXACT);
        y.entry(5, 9, 5, EXACT);
        y.shorter(0, 1);
        due("with a shorter", y.core(), 3);
        y.shorter(1, 0);
        due("without any entry either", y.core(), NONE);
    }

    private static void wrongOnes() {
        at("promise 28");
        WeekFoot x = withKeepers();
        due("none", x.wrong(0), 0);
        due("one way", x.wrong(1), 1);
        due("no bits", x.wrong(2), 0);
        x.entry(0, 0, 5, EXACT);
        x.entry(0, 0, 5, WHOLE);
        x.entry(0, 0, 6, EXACT);
        due("one", x.wrong(0), 1);
        due("one way", x.wrong(1), 1);
        due("the third", x.wrong(2), 4);
        x.entry(0, 0, 6, WHOLE);
        due("two", x.wrong(0), 2);
        due("two ways", x.wrong(1), 2);
        due("the lowest as bits", x.wrong(2), 3);
        x.entry(1, 0, 3, EXACT);
        x.entry(1, 0, 4, EXACT);
        due("two are not enough", x.wrong(0), NONE);
        due("two are not enough", x.wrong(1), NONE);
        due("two are not enough", x.wrong(2), NONE);
        x.counts(3, 0);
        due("besides those struck", x.wrong(0), 2);
        due("ways", x.wrong(1), 2);
        due("the lowest as bits", x.wrong(2), 4 + 16);
        due("no such what", x.wrong(3), NONE);
        due("no such what", x.wrong(-1), NONE);
        WeekFoot y = withKeepers();
        // of each thing one of two: {0, 1} is the lowest of the four ways
        y.entry(0, 0, 5, EXACT);
        y.entry(1, 0, 5, EXACT);
        y.entry(2, 0, 5, EXACT);
        y.entry(1, 0, 6, EXACT);
        y.entry(0, 0, 6, EXACT);
        due("two", y.wrong(0), 2);
        due("four ways", y.wrong(1), 4);
        due("the lowest", y.wrong(2), 3);
        y.shorter(0, 1);
        y.shorter(1, 0);
        due("no entry is wrong", y.wrong(0), NONE);
        WeekFoot z = withKeepers();
        // entries 1, 2, 3 are alike, 0 and 5 stand against them, 4 against 5:
        // {0, 5} is 33 as bits, {0, 4} is 17
        z.entry(0, 0, 9, EXACT);
        z.entry(0, 0, 5, EXACT);
        z.entry(0, 0, 5, EXACT);
        z.entry(0, 0, 5, EXACT);
        z.entry(1, 0, 5, EXACT);
        z.entry(1, 0, 6, EXACT);
        due("two", z.wrong(0), 2);
        due("two ways", z.wrong(1), 2);
        due("the lowest as bits", z.wrong(2), 17);
        WeekFoot v = withKeepers();
        for (int t = 0; t < 2; t++) {
            v.entry(t, 0, 5, EXACT);
            v.entry(t, 0, 5, HALF);
            v.entry(t, 0, 6, EXACT);
        }
        due("two", v.wrong(0), 2);
        due("only one way", v.wrong(1), 1);
        due("which", v.wrong(2), 4 + 32);
    }

    private static void whoseWeeks() {
        at("promise 29");
        WeekFoot x = withKeepers();
        x.entry(0, 0, 6, EXACT);
        x.entry(0, 1, 5, EXACT);
        x.entry(0, 2, 4, EXACT);
        x.entry(0, 3, 3, EXACT);
        due("none is sought", x.whose(NONE), 1);
        x.entry(0, 9, 4, EXACT);
        due("one way", x.whose(NONE), 1);
        due("keeper 2", x.whose(9), 2);
        x.entry(0, 10, 99, EXACT);
        due("no way", x.whose(NONE), 0);
        due("no way", x.whose(9), NONE);
        x.counts(5, 0);
        due("struck ones seek nothing", x.whose(10), NONE);
        due("one way", x.whose(NONE), 1);
        x.entry(1, 11, 7, WHOLE);
        due("any keeper", x.whose(NONE), 4);
        due("not sure", x.whose(11), 5);
        due("still sure", x.whose(9), 2);
        x.entry(2, 12, 7, WHOLE);
        due("three weeks", x.whose(NONE), 16);
        x.entry(3, 13, 7, WHOLE);
        due("four weeks", x.whose(NONE), NONE);
        due("four weeks", x.whose(9), NONE);
        x.week(13, 0);
        due("three again", x.whose(12), 5);
        due("a known one", x.whose(0), NONE);
        due("one without entries", x.whose(20), NONE);
        due("no week", x.whose(32), NONE);
        due("no week", x.whose(-2), NONE);
        due("the keepers are as they were", x.count(3), 5);
        WeekFoot y = withKeepers();
        for (int k = 0; k < 4; k++) {
            y.entry(0, k, 9 - k, EXACT);
        }
        for (int k = 0; k < 4; k++) {
            y.entry(0, 20, 9 - k, WHOLE);
            due("sure of " + k, y.whose(20), k);
            y.counts(4 + k, 0);
        }
        y.entry(0, 0, 7, EXACT);
        due("none sought, no way", y.whose(NONE), 0);
    }

    private static void couldWeeks() {
        at("promise 30");
        WeekFoot x = withKeepers();
        x.entry(0, 0, 6, EXACT);
        x.entry(0, 1, 5, EXACT);
        x.entry(1, 0, 9, WHOLE);
        x.entry(0, 9, 5, WHOLE);
        x.entry(1, 10, 9, WHOLE);
        // thing 0 is 6 of keeper 0, thing 1 is at most 8.33 of keeper 1
        due("week 9 by 0", x.could(9, 0), 0);
        due("week 9 by 1", x.could(9, 1), 3);
        due("week 10 by 0", x.could(10, 0), 3);
        due("week 10 by 1", x.could(10, 1), 0);
        due("all", x.could(9, 0) + x.could(9, 1) + x.could(9, 2) + x.could(9, 3), x.whose(NONE));
        due("all", x.could(10, 0) + x.could(10, 1) + x.could(10, 2) + x.could(10, 3), x.whose(NONE));
        due("no keeper", x.could(9, 4), NONE);
        due("no keeper", x.could(9, -1), NONE);
        due("a known one", x.could(0, 0), NONE);
        due("no week", x.could(NONE, 0), NONE);
        due("no week", x.could(32, 0), NONE);
        x.entry(5, 11, 1, EXACT);
        due("three", x.could(11, 2), x.whose(NONE) / 4);
        x.entry(5, 12, 1, EXACT);
        due("four", x.could(9, 1), NONE);
        x.counts(6, 0);
        x.entry(0, 0, 7, EXACT);
        due("there is no way", x.could(9, 1), 0);
    }

    private static void whenCut() {
        at("promise 31");
        WeekFoot x = new WeekFoot();
        bookOf(x, "week 0 to 31 by 0;thing 0 in 5 is 9,in 8 is 7,in 20 is 7");
        due("weeks 6 to 8", x.when(0, 0), 3);
        due("first", x.when(0, 1), 6);
        due("last", x.when(0, 2), 8);
        due("another thing's cut does not help", x.when(1, 0), 0);
        due("without", x.when(1, 1), NONE);
        x.counts(0, 0);
        due("in any week", x.when(1, 0), 31);
        due("first", x.when(1, 1), 1);
        due("last", x.when(1, 2), 31);
        x.counts(0, 1);
        x.entry(0, 25, 8, EXACT);
        due("it does not grow", x.when(0, 0), 0);
        due("without", x.when(0, 1), NONE);
        due("without", x.when(0, 2), NONE);
        x.cut(0, 7);
        due("it is cut", x.when(0, 0), NONE);
        due("no thing", x.when(6, 0), NONE);
        due("no thing", x.when(-1, 0), NONE);
        due("no such what", x.when(1, 3), NONE);
        x.cut(0, NONE);
        due("nothing is cut by it", x.count(4), 0);
    }

    // ------------------------------------------------------------ 32 .. 37: the told world, the year

    private static void toldWorld() {
        at("promise 32");
        WeekFoot x = new WeekFoot();
        for (int length = 0; length < 16; length++) {
            due("at first", x.tell(length, 200 + length), 100);
            due("then", x.tell(length, 9999), 200 + length);
            due("then", x.tell(length, 1), 9999);
        }
        int[][] bad = {{-1, 1}, {16, 1}, {0, 0}, {0, 10000}, {0, -5}};
        for (int[] b : bad) {
            due("bad", x.tell(b[0], b[1]), -1);
            due("status", x.status(), -1);
        }
        due("as it was", x.tell(0, 5), 1);
        due("status", x.status(), 0);
    }

    private static void saying() {
        at("promise 33");
        WeekFoot x = new WeekFoot();
        x.tell(0, 1000);
        x.tell(6, 50);
        x.tell(13, 300);
        x.tell(14, 400);
        x.tell(15, 9999);
        due("3.33", x.says(0, 1, EXACT), 333);
        due("3.33", x.says(0, 1, WHOLE), 3);
        due("3.33", x.says(0, 1, HALF), 3);
        due("2.5", x.says(0, 2, HALF), 3);
        due("2.5", x.says(0, 2, WHOLE), 2);
        due("a cut one", x.says(6, 0, HALF), 1);
        due("a cut one", x.says(6, 0, WHOLE), 0);
        due("0.1", x.says(0, 3, EXACT), 10);
        x.tell(12, 1);
        x.tell(5, 9999);
        due("the most", x.says(5, 0, EXACT), 999900);
        due("the last cut one", x.says(11, 2, EXACT), 25);
        due("a foot", x.says(12, 0, 0), NONE);
        due("no length", x.says(-1, 0, 0), NONE);
        due("no keeper", x.says(0, 4, 0), NONE);
        due("no keeper", x.says(0, -1, 0), NONE);
        due("no kind", x.says(0, 0, 3), NONE);
        due("no kind", x.says(0, 0, -1), NONE);
    }

    private static void judging() {
        at("promise 34");
        WeekFoot x = withKeepers();
        due("none", x.judge(0), NONE);
        due("none", x.judge(1), 0);
        due("fits", x.judge(2), 1);
        x.entry(0, 9, 7, EXACT);
        due("not known", x.judge(0), NONE);
        x.entry(0, 0, 1, EXACT);
        x.entry(1, 0, 2, WHOLE);
        x.entry(2, 0, 2, HALF);
        due("first", x.judge(0), 2);
        due("how many", x.judge(1), 2);
        due("fits", x.judge(2), 0);
        x.tell(1, 299);
        x.tell(2, 150);
        due("below 3, from 1.5 on", x.judge(1), 0);
        x.tell(1, 300);
        x.tell(2, 250);
        due("3, 2.5", x.judge(1), 2);
        x.tell(1, 200);
        x.tell(2, 249);
        due("2, 2.49", x.judge(1), 0);
        x.tell(0, 101);
        due("exactly", x.judge(0), 1);
        x.counts(1, 0);
        due("struck", x.judge(0), NONE);
        due("fits", x.judge(2), 1);
        x.shorter(0, 1);
        due("shorter is not so", x.judge(2), 0);
        due("but the entries are", x.judge(1), 0);
        x.tell(13, 101);
        due("shorter is so", x.judge(2), 1);
        x.cut(1, 1);
        due("not longer", x.judge(2), 1);
        x.tell(7, 201);
        due("longer behind the cut", x.judge(2), 0);
        WeekFoot y = new WeekFoot();
        y.shorter(3, 2);
        due("alike feet", y.judge(2), 0);
        y.tell(14, 101);
        due("longer by one", y.judge(2), 1);
        y.tell(12, 1);
        y.tell(15, 102);
        due("not shorter", y.judge(2), 0);
        y.tell(15, 100);
        y.cut(0, 31);
        due("as long behind the cut", y.judge(2), 1);
        y.tell(6, 101);
        due("longer behind the cut", y.judge(2), 0);
        y.cut(0, NONE);
        due("not cut", y.judge(2), 1);
        x.tell(7, 100);
        x.week(4, 0);
        x.entry(1, 4, 2, EXACT);
        due("a cut one too", x.judge(0), 4);
        x.counts(1, 1);
        due("the first", x.judge(0), 1);
        due("how many", x.judge(1), 2);
        x.week(9, 3);
        due("the very first", x.judge(0), 0);
        due("no such what", x.judge(3), NONE);
        due("no such what", x.judge(-1), NONE);
    }

    private static void years() {
        at("promise 35");
        WeekFoot x = new WeekFoot();
        due("alike feet", x.year(0, 0, 1), 0);
        x.tell(0, 1000);
        x.tell(12, 100);
        x.tell(13, 200);
        x.tell(14, 300);
        x.tell(15, 99);
        int[] feet = {10, 5, 3, 10};
        int[] keepers = drawn(1000000);
        int best = 0;
        int buy = NONE;
        int sell = NONE;
        for (int i = 0; i < 32; i++) {
            for (int j = i + 1; j < 32; j++) {
                if (feet[keepers[j]] - feet[keepers[i]] > best) {
                    best = feet[keepers[j]] - feet[keepers[i]];
                    buy = i;
                    sell = j;
                }
            }
        }
        due("gain", x.year(1000000, 0, 99), 99L * best);
        due("buying", x.trade(0), buy);
        due("selling", x.trade(1), sell);
        x.cut(0, 1);
        x.tell(6, 1);
        due("as long as it is not cut", x.year(1000000, 0, 99), 99L * best);
        int[][] bad = {{-1, 0, 1}, {1000001, 0, 1}, {0, -1, 1}, {0, 6, 1}, {0, 0, 0}, {0, 0, 100}};
        for (int[] b : bad) {
            due("bad", x.year(b[0], b[1], b[2]), -1);
            due("status", x.status(), -1);
        }
        due("the latest stays", x.trade(0), buy);
        due("the keepers are on paper", x.count(3), 0);
    }

    private static void trades() {
        at("promise 36");
        WeekFoot x = new WeekFoot();
        for (int what = -1; what < 40; what++) {
            due("ahead of any", x.trade(what), NONE);
        }
        x.year(123456, 3, 5);
        int[] keepers = drawn(123456);
        for (int w = 0; w < 32; w++) {
            due("keeper of " + w, x.trade(2 + w), keepers[w]);
        }
        due("without gain", x.trade(0), NONE);
        due("without gain", x.trade(1), NONE);
        due("no such what", x.trade(34), NONE);
        due("no such what", x.trade(-1), NONE);
        x.image(0);
        x.tell(12, 10);
        x.year(7, 3, 5);
        int buying = x.trade(0);
        x.back(0);
        due("images do not keep it", x.trade(2), drawn(7)[0]);
        due("images do not keep it", x.trade(0), buying);
    }

    private static void toldFeet() {
        at("promise 37");
        WeekFoot x = new WeekFoot();
        due("ahead of any", x.told(0), NONE);
        x.tell(0, 1000);
        x.tell(6, 350);
        x.tell(13, 150);
        x.tell(14, 400);
        x.year(42, 1, 1);
        int[] keepers = drawn(42);
        int[] whole = {10, 6, 2, 10};
        int[] rest = {3, 2, 0, 3};
        int all = 0;
        int withCut = 0;
        for (int w = 0; w < 32; w++) {
            all += whole[keepers[w]];
            withCut += w >= 10 ? rest[keepers[w]] : whole[keepers[w]];
        }
        due("not cut", x.told(0), all);
        x.cut(0, 10);
        due("cut in 10", x.told(0), withCut);
        due("no thing", x.told(6), NONE);
        due("no thing", x.told(-1), NONE);
    }

    // ------------------------------------------------------------ 38 .. 41: images, counts, status

    private static void imagesKept() {
        at("promise 38");
        WeekFoot x = withKeepers();
        due("image(2)", x.image(2), -1);
        due("status", x.status(), -1);
        due("image(-1)", x.image(-1), -1);
        at("promise 39");
        due("back(0)", x.back(0), -2);
        due("status", x.status(), -2);
        due("back(2)", x.back(2), -1);
        due("back(-1)", x.back(-1), -1);
        at("promise 38");
        x.entry(0, 0, 5, EXACT);
        x.counts(0, 0);
        x.cut(3, 3);
        x.shorter(0, 1);
        x.tell(4, 44);
        due("image(0)", x.image(0), 0);
        x.entry(1, 1, 6, WHOLE);
        x.counts(0, 1);
        x.cut(3, NONE);
        x.shorter(2, 3);
        x.tell(4, 55);
        x.week(0, NONE);
        x.feed(1, 2, 3, 4, 5);
        due("image(1)", x.image(1), 0);
        at("promise 39");
        due("back(0)", x.back(0), 0);
        due("entries", x.count(0), 1);
        due("those that count", x.count(1), 0);
        due("shorter", x.count(2), 1);
        due("known", x.count(3), 4);
        due("cut", x.count(4), 1);
        due("the tape stays", x.count(5), 20);
        due("refused ones stay", x.count(6) * 10 + x.count(7), 41);
        due("told", x.tell(4, 66), 44);
        x.entry(5, 5, 5, HALF);
        due("back(1)", x.back(1), 0);
        due("entries", x.count(0), 2);
        due("the second one's thing", x.of(1, 0), 1);
        due("those that count", x.count(1), 2);
        due("shorter", x.count(2), 2);
        due("known", x.count(3), 3);
        due("told", x.tell(4, 66), 55);
        due("back(0) again", x.back(0), 0);
        due("told", x.tell(4, 66), 44);
        due("image(0) anew", x.image(0), 0);
        x.tell(4, 77);
        x.back(0);
        due("told", x.tell(4, 66), 66);
    }

    private static void countsOfAll() {
        at("promise 40");
        WeekFoot x = new WeekFoot();
        x.entry(0, 0, 1, 0);
        x.entry(0, 0, 1, 0);
        x.counts(0, 0);
        x.shorter(0, 1);
        x.shorter(0, 1);
        x.week(3, 3);
        x.cut(1, 1);
        x.feed(0, 0, 0, 0, 0);
        x.counts(9, 0);
        x.back(0);
        x.tell(-1, 1);
        x.year(-1, 0, 0);
        x.image(9);
        int[] want = {2, 1, 1, 1, 1, 20, 3, 2, 1, 0, 0};
        for (int what = 0; what < want.length; what++) {
            due("count(" + what + ")", x.count(what), want[what]);
        }
        x.feed(0, 0, 0, 0, 0);
        x.end(99);
        x.between(99, 0, 0);
        x.of(99, 0);
        x.whose(99);
        due("only refused ones", x.count(6), 3);
        x.book();
        x.row();
        due("texts", x.count(10), 2);
        for (int e = 0; e < 23; e++) {
            x.entry(0, 0, 1, 0);
        }
        due("no room", x.count(9), 1);
        due("count(11)", x.count(11), NONE);
        due("count(-1)", x.count(-1), NONE);
    }

    private static void statuses() {
        at("promise 41");
        WeekFoot x = new WeekFoot();
        due("ahead of any", x.status(), 0);
        x.week(-1, 0);
        due("week", x.status(), -1);
        x.fits();
        x.of(9, 9);
        x.end(9);
        x.count(0);
        due("other calls leave it", x.status(), -1);
        x.week(0, NONE);
        due("not refused, whatever it was", x.status(), 0);
        x.cut(9, 1);
        due("cut", x.status(), -1);
        x.shorter(0, 1);
        x.shorter(0, 1);
        due("shorter", x.status(), -3);
        x.entry(0, 0, 1, 0);
        due("entry", x.status(), 0);
        x.counts(1, 1);
        due("counts", x.status(), -2);
        x.counts(0, 1);
        due("counts", x.status(), 0);
        x.row();
        due("row", x.status(), -6);
        x.tell(0, 1);
        due("tell", x.status(), 0);
        x.book();
        due("book", x.status(), -6);
        x.image(0);
        due("image", x.status(), 0);
        x.year(0, 0, 0);
        due("year", x.status(), -1);
        x.year(0, 0, 1);
        due("year", x.status(), 0);
        x.back(1);
        due("back", x.status(), -2);
        x.back(0);
        due("back", x.status(), 0);
    }
}
