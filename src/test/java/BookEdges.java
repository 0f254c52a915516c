/** "Terms" II of the document: the tape, its tokens, each clause of a book at its edges, its FAULT. */
public final class BookEdges extends Desk {
    public static void main(String[] args) {
        tapeAtMost();
        fullBooks();
        tokens();
        blanksBetween();
        weekClauses();
        keeperClauses();
        cutClauses();
        measures();
        manyMeasures();
        longNumbers();
        everyPrefix();
        bytesBehindTheEnd();
        roomForEntries();
        roomForShorter();
        clauseByClause();
        nothingOfIt();
        emptyTexts();
        latestFault();
        finish();
    }

    // ------------------------------------------------------------ the tape

    private static void tapeAtMost() {
        at("Terms II: a TAPE of at most 400 bytes; promise 8: NONE, if there would be more");
        WeekFoot x = new WeekFoot();
        due("empty at first", x.count(5), 0);
        for (int i = 1; i <= 20; i++) {
            due("feed " + i, x.feed(-1, -1, -1, -1, -1), 20 * i);
        }
        due("full", x.feed(0, 0, 0, 0, 0), NONE);
        due("still full", x.count(5), 400);
        due("all of it", x.end(400), 400);
        due("more than there is", x.end(401), NONE);
        due("one too many to feed", x.end(381), 381);
        due("feed", x.feed(0, 0, 0, 0, 0), NONE);
        due("bytes", x.count(5), 381);
        due("just enough", x.end(380), 380);
        due("feed", x.feed(0, 0, 0, 0, 0), 400);
        dueReason("feed and end", x, 0);
        at("promise 9: the TAPE has its first n bytes alone");
        due("none", x.end(0), 0);
        due("bytes", x.count(5), 0);
        due("what was cut off is gone", x.end(1), NONE);
        type(x, "week 0 by 3???");
        x.end(11);
        due("the first ones stay", x.book(), 1);
        due("keeper", x.week(0, NONE), 3);
        at("promise 8: four of each number, the highest first");
        due("feed", x.feed(0x05010263, 0x001F6302, 0x7F80FF00, 0x00010100, 0x80000000), 20);
        due("row", x.row(), 2);
        due("blurred", x.blurred(), 3);
        due("first number's week", x.of(0, 1), 31);
        due("second number's week", x.of(1, 1), 1);
    }

    private static void fullBooks() {
        at("promise 12: a BOOK of a full TAPE");
        WeekFoot x = new WeekFoot();
        StringBuilder text = new StringBuilder("week0by3");
        for (int i = 1; i < 44; i++) {
            text.append(";week0by").append(i % 4);
        }
        while (text.length() < 400) {
            text.append(' ');
        }
        dueTaken(x, text.toString(), 44);
        due("the last clause", x.week(0, NONE), 3);
        text.setCharAt(399, ';');
        dueFault(x, text.toString(), 400);
        text.setCharAt(399, 'x');
        dueFault(x, text.toString(), 399);
        dueTaken(x, " ".repeat(389) + "week 0 by 3", 1);
        dueFault(x, " ".repeat(400), 400);
        dueFault(x, "5".repeat(400), 0);
        dueFault(x, "week " + "5".repeat(395), 5);
    }

    // ------------------------------------------------------------ tokens

    private static void tokens() {
        at("Terms II: TOKENS: longest rows of letters a .. z");
        WeekFoot x = new WeekFoot();
        dueFault(x, "weeka 0 by 0", 0);
        dueFault(x, "weekz 0 by 0", 0);
        dueFault(x, "week` 0 by 0", 4);
        dueFault(x, "week{ 0 by 0", 4);
        dueFault(x, "weekA 0 by 0", 4);
        dueFault(x, "weekZ 0 by 0", 4);
        dueFault(x, "Week 0 by 0", 0);
        dueFault(x, "wee k 0 by 0", 0);
        at("Terms II: TOKENS: rows of digits");
        dueFault(x, "week 0/ by 0", 6);
        dueFault(x, "week 0: by 0", 6);
        dueFault(x, "week /0 by 0", 5);
        dueFault(x, "week 1 0 by 0", 7);
        dueFault(x, "week 5z by 0", 6);
        dueTaken(x, "week 10by 0", 1);
        dueTaken(x, "week 9by 0", 1);
        at("Terms II: TOKENS: single other bytes");
        dueFault(x, "week 0 by 0;!", 12);
        dueFault(x, "week 0 by 0!;", 11);
        dueFault(x, "week 0 by 0;;week 1 by 0", 12);
        dueFault(x, "thing 0 in 0 is 1,,in 0 is 2", 18);
        at("Terms II: any blanks (32) between");
        for (int other : new int[] {0, 9, 10, 13, 31, 33, 127, 128, 160, 255}) {
            dueFault(x, "week 0" + (char) other + "by 0", 6);
            dueFault(x, (char) other + "week 0 by 0", 0);
            dueFault(x, "week 0 by 0" + (char) other, 11);
        }
        due("nothing but week 10 and 9 came", x.count(3), 2);
    }

    private static void blanksBetween() {
        at("Terms II: any blanks (32) between");
        WeekFoot x = new WeekFoot();
        dueTaken(x, "week0to31by3;keeper0below1;thing5in31is99half,in0is1;thing0cut in1;thing1cut never", 5);
        due("weeks", x.count(3), 32);
        due("entries", x.count(0), 2);
        due("cut", x.cut(0, NONE), 1);
        dueTaken(x, "  week   0  to   31   by   nobody   ;   thing   0   in   0   is   1   whole   ,   in 1 is 2 ", 2);
        due("weeks", x.count(3), 0);
        due("kind", x.of(2, 3), WHOLE);
        dueFault(x, "thing0cutin1", 6);
        dueFault(x, "week0bynobody", 5);
        dueFault(x, "thing0in0is1wholehalf", 12);
        dueFault(x, "week 0 b y 0", 7);
    }

    // ------------------------------------------------------------ clauses

    private static void weekClauses() {
        at("Terms II: \"week\" WEEK [\"to\" WEEK] \"by\" (KEEPER | \"nobody\")");
        WeekFoot x = new WeekFoot();
        dueTaken(x, "week 0 by 0", 1);
        dueTaken(x, "week 31 by 3", 1);
        due("week 0", x.week(0, NONE), 0);
        due("week 31", x.week(31, 1), 3);
        dueTaken(x, "week 31 by nobody", 1);
        due("week 31", x.week(31, NONE), NONE);
        dueFault(x, "week 32 by 0", 5);
        dueFault(x, "week 0 by 4", 10);
        dueFault(x, "week 0 by none", 10);
        dueFault(x, "week 0 to 32 by 0", 10);
        dueFault(x, "week nobody", 5);
        dueFault(x, "week 0 to nobody", 10);
        dueTaken(x, "week 0 to 31 by 2", 1);
        due("all weeks", x.count(3), 32);
        dueTaken(x, "week 1 to 30 by nobody", 1);
        due("but the first and the last", x.count(3), 2);
        at("Terms II: the second WEEK not below the first (FAULT at it)");
        dueTaken(x, "week 7 to 7 by 1", 1);
        due("week 7", x.week(7, NONE), 1);
        dueFault(x, "week 7 to 6 by 1", 10);
        dueFault(x, "week 31 to 0 by 1", 11);
        dueFault(x, "week 1 to 0 by 9", 10);
        due("weeks", x.count(3), 2);
    }

    private static void keeperClauses() {
        at("Terms II: \"keeper\" KEEPER \"below\" KEEPER");
        WeekFoot x = new WeekFoot();
        dueTaken(x, "keeper 0 below 3", 1);
        dueTaken(x, "keeper 3 below 0", 1);
        due("shorter", x.count(2), 2);
        due("told", x.shorter(0, 3), -3);
        due("told", x.shorter(3, 0), -3);
        dueFault(x, "keeper 4 below 0", 7);
        dueFault(x, "keeper 0 below 4", 15);
        dueFault(x, "keeper 0 below nobody", 15);
        dueFault(x, "keeper 0 above 1", 9);
        at("Terms II: a KEEPER below itself is FAULT at the second");
        for (int k = 0; k < 4; k++) {
            dueFault(x, "keeper " + k + " below " + k, 15);
        }
        dueFault(x, "keeper 2 below  02", 16);
        due("shorter", x.count(2), 2);
    }

    private static void cutClauses() {
        at("Terms II: \"thing\" THING \"cut\" (\"in\" WEEK 1 .. 31 | \"never\")");
        WeekFoot x = new WeekFoot();
        dueTaken(x, "thing 0 cut in 1", 1);
        dueTaken(x, "thing 5 cut in 31", 1);
        due("cut ones", x.count(4), 2);
        due("thing 0", x.cut(0, 9), 1);
        due("thing 5", x.cut(5, 9), 31);
        dueTaken(x, "thing 0 cut never", 1);
        due("cut ones", x.count(4), 1);
        due("thing 0", x.cut(0, NONE), NONE);
        dueTaken(x, "thing 0 cut never", 1);
        due("thing 0", x.cut(0, NONE), NONE);
        dueFault(x, "thing 6 cut never", 6);
        dueFault(x, "thing 0 cut in 0", 15);
        dueFault(x, "thing 0 cut in 32", 15);
        dueFault(x, "thing 0 cut in never", 15);
        dueFault(x, "thing 0 cut 5", 12);
        dueFault(x, "thing 0 cut in 5,in 6 is 7", 16);
        dueFault(x, "thing 0 cut never,cut in 5", 17);
        dueFault(x, "thing 0 never", 8);
        due("cut ones", x.count(4), 1);
    }

    private static void measures() {
        at("Terms II: MEASURE: \"in\" WEEK \"is\" NUMBER [\"exact\" | \"whole\" | \"half\"] (EXACT without)");
        WeekFoot x = new WeekFoot();
        String[] texts = {"thing 0 in 0 is 1", "thing 5 in 31 is 99", "thing 1 in 2 is 3 exact", "thing 1 in 2 is 4whole",
            "thing 1 in 2 is 5 half"};
        int[][] want = {{0, 0, 1, EXACT}, {5, 31, 99, EXACT}, {1, 2, 3, EXACT}, {1, 2, 4, WHOLE}, {1, 2, 5, HALF}};
        for (int e = 0; e < texts.length; e++) {
            dueTaken(x, texts[e], 1);
            due("entries", x.count(0), e + 1);
            for (int what = 0; what < 4; what++) {
                due("of(" + e + ", " + what + ")", x.of(e, what), want[e][what]);
            }
            due("it counts", x.of(e, 4), 1);
        }
        dueFault(x, "thing 6 in 0 is 1", 6);
        dueFault(x, "thing 0 in 32 is 1", 11);
        dueFault(x, "thing 0 in 0 is 0", 16);
        dueFault(x, "thing 0 in 0 is 100", 16);
        dueFault(x, "thing 0 in 0 is 1 exactly", 18);
        dueFault(x, "thing 0 in 0 is 1 exact whole", 24);
        dueFault(x, "thing 0 in 0 is half", 16);
        dueFault(x, "thing 0 is 1", 8);
        dueFault(x, "thing 0 in 0 1", 13);
        due("entries", x.count(0), 5);
    }

    private static void manyMeasures() {
        at("Terms II: \"thing\" THING MEASURE {\",\" MEASURE}");
        WeekFoot x = new WeekFoot();
        StringBuilder text = new StringBuilder("thing 4 in 0 is 1");
        for (int e = 1; e < 24; e++) {
            text.append(",in ").append(e).append(" is ").append(e + 1);
        }
        dueTaken(x, text.toString(), 1);
        due("entries", x.count(0), 24);
        due("the last one's week", x.of(23, 1), 23);
        WeekFoot y = new WeekFoot();
        dueFault(y, text + ",in 24 is 25", text.length() + 1);
        due("entries", y.count(0), 0);
        dueFault(y, text + ",", text.length() + 1);
        dueFault(y, text + ";", text.length() + 1);
        dueFault(y, text + ".", text.length());
        dueFault(y, "thing 4 in 0 is 1 in 1 is 2", 18);
        dueFault(y, "thing 4 in 0 is 1, thing 4 in 1 is 2", 19);
        dueFault(y, "thing 4, in 0 is 1", 7);
    }

    private static void longNumbers() {
        at("Terms II: NUMBERS as there are");
        WeekFoot x = new WeekFoot();
        // numbers that an int or a long would wrap round to 1 or 0
        dueFault(x, "week 4294967296 by 0", 5);
        dueFault(x, "week 4294967297 by 0", 5);
        dueFault(x, "week 18446744073709551616 by 0", 5);
        dueFault(x, "week 18446744073709551617 by 0", 5);
        dueFault(x, "thing 0 in 0 is 4294967297", 16);
        dueFault(x, "thing 0 in 0 is 256", 16);
        dueFault(x, "thing 0 in 0 is 1001", 16);
        dueFault(x, "thing 0 in 0 is 1000", 16);
        dueFault(x, "week -0 by 0", 5);
        dueFault(x, "week +1 by 0", 5);
        dueTaken(x, "week 0031 by 00", 1);
        due("week 31", x.week(31, NONE), 0);
    }

    /** A book of every kind of clause, token by token: wherever it is broken off, its fault is there. */
    private static void everyPrefix() {
        at("Terms II: FAULT: the first TOKEN that can't go on there (the end's: the TEXT's length)");
        String[] tokens = {"week", "3", "to", "7", "by", "2", ";", "keeper", "1", "below", "2", ";",
            "thing", "4", "in", "9", "is", "5", "half", ",", "in", "2", "is", "3", ";",
            "thing", "3", "cut", "in", "8"};
        // how many clauses there are, if the text ends behind the token; 0: it can't end there
        int[] clauses = {0, 0, 0, 0, 0, 1, 0, 0, 0, 0, 2, 0,
            0, 0, 0, 0, 0, 3, 3, 0, 0, 0, 0, 3, 0,
            0, 0, 0, 0, 4};
        String ahead = "";
        for (int i = 0; i < tokens.length; i++) {
            for (int n = 1; n < tokens[i].length(); n++) {
                String broken = ahead + tokens[i].substring(0, n);
                dueFault(new WeekFoot(), broken, ahead.length());
                dueFault(new WeekFoot(), broken + "  ", ahead.length());
            }
            dueFault(new WeekFoot(), ahead + "?", ahead.length());
            String text = ahead + tokens[i];
            if (clauses[i] > 0) {
                dueTaken(new WeekFoot(), text, clauses[i]);
                dueTaken(new WeekFoot(), text + "  ", clauses[i]);
            } else {
                dueFault(new WeekFoot(), text, text.length());
                dueFault(new WeekFoot(), text + "  ", text.length() + 2);
            }
            ahead = text + " ";
        }
    }

    private static void bytesBehindTheEnd() {
        at("promise 9: the TAPE has its first n bytes alone, so a BOOK ends there");
        String[] texts = {"week 5 by 3", "week 1", "keeper 0 below 1", "thing 0 in 0 is 1", "thing 0 cut in 1"};
        int[] ends = {10, 5, 15, 16, 15};
        for (int i = 0; i < texts.length; i++) {
            WeekFoot x = new WeekFoot();
            type(x, texts[i]);
            x.end(ends[i]);
            due("the number of " + texts[i] + " is cut off", x.book(), -6);
            due("fault", x.fault(), ends[i]);
        }
        WeekFoot x = new WeekFoot();
        type(x, "week 12 by 3");
        x.end(6);
        type(x, "by 2");
        due("what comes behind", x.book(), 1);
        due("week 1", x.week(1, NONE), 2);
        at("promise 12: a full TAPE that ends where a number is needed");
        dueFault(x, " ".repeat(395) + "week ", 400);
        dueFault(x, " ".repeat(396) + "week", 400);
        dueFault(x, " ".repeat(390) + "week 0 to ", 400);
    }

    // ------------------------------------------------------------ room

    private static void roomForEntries() {
        at("Terms II: ENTRIES beyond what there is room for are FAULT at the MEASURE's \"in\"");
        WeekFoot x = withEntries(23);
        dueFault(x, "thing 0 in 0 is 1,in 0 is 2", 18);
        dueReason("a book without room", x, -6);
        dueFault(x, "thing 0 in 0 is 1; thing 1  in 0 is 2", 28);
        due("entries", x.count(0), 23);
        dueTaken(x, "thing 0 in 0 is 1 half;thing 3 cut in 9", 2);
        due("entries", x.count(0), 24);
        dueFault(x, "thing 0 in 0 is 1", 8);
        dueFault(x, "thing 0 in 0 is 100", 8);
        dueFault(x, "thing 6 in 0 is 1", 6);
        dueTaken(x, "thing 0 cut in 1", 1);
        for (int e = 0; e < 24; e++) {
            x.counts(e, 0);
        }
        dueFault(x, "week 0 by 0;thing 0 in 0 is 1", 20);
        due("week 0", x.count(3), 0);
    }

    private static void roomForShorter() {
        at("Terms II: SHORTER beyond what there is room for are FAULT at \"keeper\"");
        WeekFoot x = new WeekFoot();
        for (int k = 1; k < 4; k++) {
            x.shorter(0, k);
            x.shorter(k, 0);
        }
        dueFault(x, "keeper 1 below 2", 0);
        dueReason("a book without room", x, -6);
        dueFault(x, "week 0 by 0; keeper 1 below 2;week 1 by 0", 13);
        dueFault(x, "keeper 1 below 1", 15);
        dueFault(x, "keeper 1 below 4", 15);
        at("Terms II: a SHORTER that is told already is none more");
        dueTaken(x, "keeper 0 below 3;keeper 3 below 0;keeper 0 below 3", 3);
        due("shorter", x.count(2), 6);
        WeekFoot full = withSixShorter();
        dueTaken(full, "keeper 0 below 1;keeper 2 below 3", 2);
        due("shorter", full.count(2), 6);
        WeekFoot y = new WeekFoot();
        dueTaken(y, "keeper 0 below 1;keeper 0 below 1;keeper 0 below 2;keeper 0 below 3;keeper 1 below 2;"
                + "keeper 1 below 3;keeper 2 below 3;keeper 0 below 1", 8);
        due("shorter", y.count(2), 6);
        WeekFoot z = new WeekFoot();
        dueFault(z, "keeper 0 below 1;keeper 0 below 2;keeper 0 below 3;keeper 1 below 2;"
                + "keeper 1 below 3;keeper 2 below 3;keeper 1 below 0", 102);
        due("shorter", z.count(2), 0);
    }

    // ------------------------------------------------------------ what is told

    private static void clauseByClause() {
        at("Terms II: what a BOOK that is taken tells is told CLAUSE by CLAUSE");
        WeekFoot x = new WeekFoot();
        dueTaken(x, "week 0 to 9 by 1;week 3 to 5 by 2;week 4 by nobody;thing 0 cut in 3;thing 0 cut in 4;"
                + "thing 1 cut in 5;thing 1 cut never;thing 2 in 0 is 1;thing 2 in 0 is 1", 9);
        due("week 2", x.week(2, NONE), 1);
        due("week 3", x.week(3, NONE), 2);
        due("week 4", x.week(4, NONE), NONE);
        due("week 5", x.week(5, NONE), 2);
        due("week 6", x.week(6, NONE), 1);
        due("thing 0", x.cut(0, NONE), 4);
        due("thing 1", x.cut(1, NONE), NONE);
        due("entries", x.count(0), 2);
        at("Terms II: a BOOK that can't be by what it tells is taken all the same");
        dueTaken(x, "week 0 by 0;thing 5 in 0 is 1;thing 5 in 0 is 2;keeper 0 below 1;keeper 1 below 0", 5);
        due("it can't be", x.fits(), 0);
        due("status", x.status(), 0);
    }

    private static void nothingOfIt() {
        at("Terms II: of one that is not taken nothing is told");
        WeekFoot x = new WeekFoot();
        x.week(0, 3);
        x.cut(0, 3);
        String text = "week 0 to 31 by 1;thing 0 cut in 9;thing 1 cut in 9;keeper 0 below 1;thing 0 in 0 is 1;week";
        dueFault(x, text, text.length());
        int[] want = {0, 0, 0, 1, 1, 0};
        for (int what = 0; what < want.length; what++) {
            due("count(" + what + ")", x.count(what), want[what]);
        }
        due("week 0", x.week(0, NONE), 3);
        due("thing 0", x.cut(0, NONE), 3);
    }

    private static void emptyTexts() {
        at("promise 12: -6 (blanks alone: FAULT at the end)");
        WeekFoot x = new WeekFoot();
        due("an empty tape", x.book(), -6);
        dueReason("an empty tape", x, -6);
        due("fault", x.fault(), 0);
        dueFault(x, " ", 1);
        dueFault(x, "                    ", 20);
        dueFault(x, ";", 0);
        dueFault(x, " ; ", 1);
        due("refused", x.count(10), 5);
        at("promise 12: the TAPE is empty then");
        type(x, "week 0 by 0");
        due("bytes", x.count(5), 11);
        x.book();
        due("behind one that was taken", x.count(5), 0);
        type(x, "week 0 by");
        x.book();
        due("behind one that was not", x.count(5), 0);
    }

    private static void latestFault() {
        at("promise 13: FAULT of the latest book(): its place; NONE without");
        WeekFoot x = new WeekFoot();
        due("ahead of any", x.fault(), NONE);
        dueFault(x, "week 0 by 9", 10);
        x.row();
        x.week(99, 0);
        rowOf(x, 0, 0, 1, 0);
        due("other calls leave it", x.fault(), 10);
        dueTaken(x, "week 0 by 1", 1);
        x.book();
        due("the latest", x.fault(), 0);
    }
}
