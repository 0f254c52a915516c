import com.sun.management.ThreadMXBean;
import java.lang.management.ManagementFactory;

/** All calls of one run live in one room: an object is small, and no call makes another one. */
public final class Room extends Desk {
    private static final ThreadMXBean THREADS = (ThreadMXBean) ManagementFactory.getThreadMXBean();
    private static final int OBJECTS = 100;
    private static final long MOST_BYTES_EACH = 16000;
    /** What the asking itself may take. */
    private static final long MOST_BYTES_FOR_ALL_CALLS = 2000;

    public static void main(String[] args) {
        // classes and constants are loaded by a first run
        callAll(new WeekFoot());
        objectsAreSmall();
        noCallTakesRoom();
        finish();
    }

    private static long taken() {
        return THREADS.getThreadAllocatedBytes(Thread.currentThread().getId());
    }

    private static void objectsAreSmall() {
        at("rule 12: what a run makes is small");
        WeekFoot[] kept = new WeekFoot[OBJECTS];
        long before = taken();
        for (int i = 0; i < OBJECTS; i++) {
            kept[i] = new WeekFoot();
        }
        long each = (taken() - before) / OBJECTS;
        due("whether " + each + " bytes are few", each <= MOST_BYTES_EACH ? 1 : 0, 1);
        due("the last is a new one", kept[OBJECTS - 1].count(0), 0);
    }

    private static void noCallTakesRoom() {
        at("rule 12: no call makes an object");
        WeekFoot[] made = new WeekFoot[OBJECTS];
        for (int i = 0; i < OBJECTS; i++) {
            made[i] = new WeekFoot();
        }
        long before = taken();
        long sum = 0;
        for (WeekFoot x : made) {
            // one round has fewer than a hundred calls, and an object is good for 512
            for (int round = 0; round < 5; round++) {
                sum += callAll(x);
            }
        }
        long all = taken() - before;
        due("whether " + all + " bytes are none", all <= MOST_BYTES_FOR_ALL_CALLS ? 1 : 0, 1);
        due("the calls have answered", sum != 0 ? 1 : 0, 1);
    }

    /** Every call, in states that can be and that can't, without an object made here. */
    private static long callAll(WeekFoot x) {
        x.back(0);
        x.image(0);
        long sum = x.week(0, 0) + x.week(1, 1) + x.week(2, 2) + x.week(3, 3) + x.cut(4, 2) + x.shorter(0, 1);
        // "week 0 by 3;week 9 b", cut behind its first clause, then a row of one entry
        sum += x.feed(0x7765656b, 0x20302062, 0x7920333b, 0x7765656b, 0x20392062) + x.end(11) + x.book() + x.fault();
        sum += x.feed(0x00010a00, 0, 0, 0, 0) + x.end(4) + x.row() + x.blurred();
        sum += x.week(0, 0) + look(x);
        for (int e = 0; e < 20; e++) {
            sum += x.entry(e % 5, e % 7, 1 + e * 5, e % 3);
        }
        sum += x.counts(2, 0) + x.of(2, 5) + look(x);
        return sum + x.back(0);
    }

    private static long look(WeekFoot x) {
        long sum = x.fits() + x.between(0, 12, 0) + x.sure(0, 12) + x.feet(0, 0, 1) + x.part(0, 12, 1);
        sum += x.lay(0, 1, 2, 0, 0) + x.area(0, 1, 0, 1) + x.would(0, 0, 5, 1) + x.numbers(0, 0, 2, 0) + x.ask(2);
        sum += x.dates(0, 5, 1, 0) + x.joined(0, 12) + x.groups(2) + x.core() + x.wrong(2) + x.whose(NONE);
        sum += x.could(5, 1) + x.when(0, 0) + x.tell(0, 500) + x.says(0, 0, 2) + x.judge(1) + x.year(5, 0, 7);
        return sum + x.trade(0) + x.told(0) + x.count(0) + x.status();
    }
}
