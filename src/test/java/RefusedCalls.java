import java.util.ArrayList;
import java.util.List;
import java.util.function.Supplier;
import java.util.function.ToLongFunction;

/**
 * Behind each call that was refused: what it answers, what status and count tell, and that all
 * else is as it is on an object on which it was not called; the images, too.
 */
public final class RefusedCalls extends Desk {
    public static void main(String[] args) {
        numbersThatCannotBe();
        noSuchOnes();
        whatStandsAlready();
        noRoom();
        textsThatCannotBe();
        refusedOneBehindAnother();
        takenOnes();
        otherCallsLeaveStatus();
        finish();
    }

    /** Something of all that can be told, image 0 kept, image 1 not, two bytes on the tape. */
    private static WeekFoot busy() {
        WeekFoot x = written("week 0 to 5 by 1;week 2 by 3;thing 0 cut in 9;keeper 0 below 1;"
                + "thing 0 in 0 is 5 half,in 2 is 6;thing 1 in 20 is 7 whole");
        x.counts(1, 0);
        x.tell(3, 777);
        x.tell(13, 55);
        x.image(0);
        x.week(31, 2);
        x.cut(1, 3);
        x.shorter(2, 1);
        x.entry(2, 31, 8, HALF);
        x.tell(3, 888);
        x.year(9, 3, 2);
        rowOf(x, 9, 9);
        bookOf(x, "week 5 by");
        type(x, "ab");
        return x;
    }

    private static WeekFoot fullOfEntries() {
        WeekFoot x = busy();
        for (int e = x.count(0); e < 24; e++) {
            x.entry(e % 6, e, e, WHOLE);
        }
        return x;
    }

    private static WeekFoot fullOfShorter() {
        WeekFoot x = withSixShorter();
        x.entry(0, 0, 1, EXACT);
        x.image(0);
        x.week(3, 3);
        return x;
    }

    private static WeekFoot withoutTape() {
        WeekFoot x = busy();
        x.end(0);
        x.book();
        return x;
    }

    /** All that can be seen of an object but its status; what it is behind that does not matter. */
    private static List<Long> seen(WeekFoot x) {
        List<Long> all = new ArrayList<>();
        for (int what = 0; what <= 5; what++) {
            all.add((long) x.count(what));
        }
        all.add((long) x.fault());
        all.add((long) x.blurred());
        all.add((long) x.fits());
        for (int i = 0; i < 24 * 6; i++) {
            all.add((long) x.of(i / 6, i % 6));
        }
        for (int what = 0; what < 34; what++) {
            all.add((long) x.trade(what));
        }
        for (int t = 0; t < 6; t++) {
            all.add((long) x.told(t));
            int was = x.cut(t, NONE);
            all.add((long) was);
            x.cut(t, was);
        }
        for (int w = 0; w < 32; w++) {
            all.add((long) x.week(w, NONE));
        }
        for (int length = 0; length < 16; length++) {
            all.add((long) x.tell(length, 1));
        }
        for (int p = 0; p < 16; p++) {
            all.add((long) x.shorter(p / 4, p % 4));
        }
        all.add((long) x.book());
        all.add((long) x.fault());
        return all;
    }

    private static void refused(String call, int reason, Supplier<WeekFoot> from, ToLongFunction<WeekFoot> deed) {
        WeekFoot x = from.get();
        WeekFoot without = from.get();
        due(call, deed.applyAsLong(x), reason);
        due("status behind " + call, x.status(), reason);
        for (int i = 0; i < REASONS.length; i++) {
            int more = REASONS[i] == reason ? 1 : 0;
            due("count(" + (6 + i) + ") behind " + call, x.count(6 + i), without.count(6 + i) + more);
        }
        dueSame("all behind " + call, seen(x), seen(without));
        for (int k = 0; k < 2; k++) {
            WeekFoot y = from.get();
            WeekFoot z = from.get();
            deed.applyAsLong(y);
            due("image " + k + " behind " + call, y.back(k), z.back(k));
            dueSame("image " + k + " behind " + call, seen(y), seen(z));
        }
    }

    private static void dueSame(String what, List<Long> got, List<Long> want) {
        int differ = got.size() == want.size() ? 0 : 1;
        for (int i = 0; differ == 0 && i < got.size(); i++) {
            differ = got.get(i).equals(want.get(i)) ? 0 : 1;
        }
        due(what + " is otherwise", differ, 0);
    }

    private static void numbersThatCannotBe() {
        at("Terms I: REFUSED by -1, a number that can't be");
        Supplier<WeekFoot> busy = RefusedCalls::busy;
        refused("week(-1, 0)", -1, busy, x -> x.week(-1, 0));
        refused("week(32, 0)", -1, busy, x -> x.week(32, 0));
        refused("week(0, -2)", -1, busy, x -> x.week(0, -2));
        refused("week(0, 4)", -1, busy, x -> x.week(0, 4));
        refused("cut(-1, 5)", -1, busy, x -> x.cut(-1, 5));
        refused("cut(6, 5)", -1, busy, x -> x.cut(6, 5));
        refused("cut(0, 0)", -1, busy, x -> x.cut(0, 0));
        refused("cut(0, 32)", -1, busy, x -> x.cut(0, 32));
        refused("cut(0, -2)", -1, busy, x -> x.cut(0, -2));
        refused("shorter(-1, 0)", -1, busy, x -> x.shorter(-1, 0));
        refused("shorter(0, -1)", -1, busy, x -> x.shorter(0, -1));
        refused("shorter(4, 0)", -1, busy, x -> x.shorter(4, 0));
        refused("shorter(0, 4)", -1, busy, x -> x.shorter(0, 4));
        refused("shorter(3, 3)", -1, busy, x -> x.shorter(3, 3));
        refused("entry(6, 0, 1, 0)", -1, busy, x -> x.entry(6, 0, 1, 0));
        refused("entry(0, 32, 1, 0)", -1, busy, x -> x.entry(0, 32, 1, 0));
        refused("entry(0, 0, 0, 0)", -1, busy, x -> x.entry(0, 0, 0, 0));
        refused("entry(0, 0, 100, 0)", -1, busy, x -> x.entry(0, 0, 100, 0));
        refused("entry(0, 0, 1, 3)", -1, busy, x -> x.entry(0, 0, 1, 3));
        refused("counts(0, 2)", -1, busy, x -> x.counts(0, 2));
        refused("counts(0, -1)", -1, busy, x -> x.counts(0, -1));
        refused("counts(-1, 0)", -1, busy, x -> x.counts(-1, 0));
        refused("counts(24, 0)", -1, busy, x -> x.counts(24, 0));
        refused("tell(-1, 5)", -1, busy, x -> x.tell(-1, 5));
        refused("tell(16, 5)", -1, busy, x -> x.tell(16, 5));
        refused("tell(3, 0)", -1, busy, x -> x.tell(3, 0));
        refused("tell(3, 10000)", -1, busy, x -> x.tell(3, 10000));
        refused("year(-1, 0, 1)", -1, busy, x -> x.year(-1, 0, 1));
        refused("year(1000001, 0, 1)", -1, busy, x -> x.year(1000001, 0, 1));
        refused("year(1, 6, 1)", -1, busy, x -> x.year(1, 6, 1));
        refused("year(1, 0, 0)", -1, busy, x -> x.year(1, 0, 0));
        refused("year(1, 0, 100)", -1, busy, x -> x.year(1, 0, 100));
        refused("image(-1)", -1, busy, x -> x.image(-1));
        refused("image(2)", -1, busy, x -> x.image(2));
        refused("back(-1)", -1, busy, x -> x.back(-1));
        refused("back(2)", -1, busy, x -> x.back(2));
    }

    private static void noSuchOnes() {
        at("Terms I: REFUSED by -2, there is no such ENTRY, IMAGE");
        refused("counts(4, 0)", -2, RefusedCalls::busy, x -> x.counts(4, 0));
        refused("counts(23, 1)", -2, RefusedCalls::busy, x -> x.counts(23, 1));
        refused("back(1)", -2, RefusedCalls::busy, x -> x.back(1));
        refused("counts(0, 0) of none", -2, WeekFoot::new, x -> x.counts(0, 0));
        refused("back(0) of none", -2, WeekFoot::new, x -> x.back(0));
    }

    private static void whatStandsAlready() {
        at("Terms I: REFUSED by -3, it can't be by what stands");
        refused("shorter(0, 1)", -3, RefusedCalls::busy, x -> x.shorter(0, 1));
        refused("shorter(2, 1)", -3, RefusedCalls::busy, x -> x.shorter(2, 1));
        refused("shorter(0, 1) without room", -3, RefusedCalls::fullOfShorter, x -> x.shorter(0, 1));
    }

    private static void noRoom() {
        at("Terms I: REFUSED by -5, no room");
        refused("entry(0, 0, 1, 0)", -5, RefusedCalls::fullOfEntries, x -> x.entry(0, 0, 1, 0));
        refused("entry(5, 31, 99, 2)", -5, RefusedCalls::fullOfEntries, x -> x.entry(5, 31, 99, 2));
        refused("shorter(3, 0)", -5, RefusedCalls::fullOfShorter, x -> x.shorter(3, 0));
    }

    private static void textsThatCannotBe() {
        at("Terms I: REFUSED by -6, a TEXT, a ROW that can't be");
        refused("row()", -6, RefusedCalls::withoutTape, x -> x.row());
        refused("book()", -6, RefusedCalls::withoutTape, x -> x.book());
        refused("row() of none", -6, WeekFoot::new, x -> x.row());
        at("promise 12: of a BOOK that is not taken the TAPE is empty then, and nothing is told");
        WeekFoot x = busy();
        WeekFoot without = busy();
        due("book()", x.book(), -6);
        due("fault", x.fault(), 0);
        due("refused", x.count(10), without.count(10) + 1);
        without.end(0);
        without.book();
        dueSame("all", seen(x), seen(without));
    }

    private static void refusedOneBehindAnother() {
        at("promises 40, 41: each reason is counted by itself, status tells the latest");
        WeekFoot x = withSixShorter();
        for (int i = 1; i <= 5; i++) {
            x.week(99, 0);
            due("status", x.status(), -1);
            x.counts(0, 0);
            due("status", x.status(), -2);
            x.shorter(0, 1);
            due("status", x.status(), -3);
            x.shorter(1, 0);
            due("status", x.status(), -5);
            x.row();
            due("status", x.status(), -6);
            for (int what = 6; what <= 10; what++) {
                due("count(" + what + ")", x.count(what), i);
            }
        }
        at("promise 40: IMAGES do not keep that");
        WeekFoot y = new WeekFoot();
        y.image(0);
        y.week(99, 0);
        y.counts(0, 0);
        y.row();
        y.back(0);
        due("-1", y.count(6), 1);
        due("-2", y.count(7), 1);
        due("-6", y.count(10), 1);
    }

    private static void accepted(String call, ToLongFunction<WeekFoot> deed, long answer) {
        WeekFoot x = busy();
        x.shorter(2, 1);
        long before = counted(x);
        due("status ahead of " + call, x.status(), -3);
        due(call, deed.applyAsLong(x), answer);
        due("status behind " + call, x.status(), 0);
        due("refused ones behind " + call, counted(x), before);
    }

    private static long counted(WeekFoot x) {
        long all = 0;
        for (int what = 6; what <= 10; what++) {
            all = 100 * all + x.count(what);
        }
        return all;
    }

    private static void takenOnes() {
        at("promise 41: 0 if it was not");
        // answers of -1 are what was there, not a refusal
        accepted("week(9, 2)", x -> x.week(9, 2), NONE);
        accepted("week(0, NONE)", x -> x.week(0, NONE), 1);
        accepted("cut(5, 31)", x -> x.cut(5, 31), NONE);
        accepted("cut(0, NONE)", x -> x.cut(0, NONE), 9);
        accepted("shorter(3, 2)", x -> x.shorter(3, 2), 3);
        accepted("entry(0, 0, 1, 0)", x -> x.entry(0, 0, 1, 0), 4);
        accepted("counts(1, 1)", x -> x.counts(1, 1), 0);
        accepted("row() of blurred ones", x -> x.row(), 0);
        accepted("book()", x -> {
            x.end(0);
            return bookOf(x, "week 0 by 0");
        }, 1);
        accepted("tell(3, 5)", x -> x.tell(3, 5), 888);
        accepted("year(0, 0, 1)", x -> x.year(0, 1, 1), 0);
        accepted("image(1)", x -> x.image(1), 0);
        accepted("back(0)", x -> x.back(0), 0);
    }

    private static void otherCallsLeaveStatus() {
        at("promise 41: the latest call of week .. back alone");
        List<ToLongFunction<WeekFoot>> others = List.of(x -> x.of(99, 0), x -> x.feed(0, 0, 0, 0, 0),
                x -> x.end(999), x -> x.blurred(), x -> x.fault(), x -> x.fits(), x -> x.between(99, 0, 0),
                x -> x.sure(99, 0), x -> x.feet(99, 0, 0), x -> x.part(99, 0, 0), x -> x.lay(99, 0, 0, 0, 0),
                x -> x.area(99, 0, 0, 0), x -> x.would(0, 0, 100, 0), x -> x.numbers(0, 0, 3, 0), x -> x.ask(9),
                x -> x.dates(9, 1, 0, 0), x -> x.joined(99, 0), x -> x.groups(9), x -> x.core(), x -> x.wrong(9),
                x -> x.whose(99), x -> x.could(99, 0), x -> x.when(9, 0), x -> x.says(99, 0, 0), x -> x.judge(9),
                x -> x.trade(99), x -> x.told(9), x -> x.count(99), x -> x.status());
        for (int i = 0; i < others.size(); i++) {
            WeekFoot x = busy();
            x.shorter(2, 1);
            long before = counted(x);
            others.get(i).applyAsLong(x);
            due("status behind call " + i, x.status(), -3);
            due("refused ones behind call " + i, counted(x), before);
        }
        WeekFoot full = new WeekFoot();
        for (int i = 0; i < 21; i++) {
            full.feed(0, 0, 0, 0, 0);
        }
        dueReason("a feed that was NONE", full, 0);
        due("status of a new object", new WeekFoot().status(), 0);
    }
}
