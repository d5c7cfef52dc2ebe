import com.sun.management.ThreadMXBean;
import java.lang.management.ManagementFactory;

/** All 512 calls of a run live in one room: an object is made with its rows, and calls make nothing. */
public final class RoomTest {
    private static final String TEXT = "land a 0 0 0 1;land b 6 0 0 1;land c 3 0 0 1;land d 1 0 0 1;land e 2 0 0 1;"
            + "sleep box a min(600,if age less 9 then if since less 8 then 600 else 9 else (cents/7));"
            + "sleep savings b 500-letters;pays savings 999;letter 3;";
    /** 600,000 objects of sixteen bytes each, the least that the machine makes: a room for objects and fields alike. */
    private static final long ROOM = 9_600_000;

    public static void main(String[] args) {
        ThreadMXBean room = (ThreadMXBean) ManagementFactory.getThreadMXBean();
        for (int round = 0; round < 3; round++) {
            long start = room.getCurrentThreadAllocatedBytes();
            IdleMoney bank = new IdleMoney();
            long made = room.getCurrentThreadAllocatedBytes();
            int calls = 512 / (tapeCalls() + 10);
            for (int i = 0; i < calls; i++) {
                feed(bank);
                Bank.same("lands", bank.text(TEXT.length()), 5);
                dearCalls(bank);
            }
            long called = room.getCurrentThreadAllocatedBytes();
            if (round > 0) {
                Bank.holds("an object takes " + (made - start), made - start < ROOM / 8);
                Bank.holds("its calls take " + (called - made), called - made < ROOM / 8);
            }
        }
        Bank.end("RoomTest");
    }

    private static void feed(IdleMoney bank) {
        for (int from = 0; from < TEXT.length(); from += 20) {
            int[] five = Bank.five(TEXT, from);
            bank.feed(five[0], five[1], five[2], five[3], five[4]);
        }
    }

    private static int tapeCalls() {
        return (TEXT.length() + 19) / 20 + 1;
    }

    private static void dearCalls(IdleMoney it) {
        for (int i = 0; i < 3; i++) {
            it.open(i == 0 ? 4 : 0, 0, 1, 100_000_000);
        }
        it.months(120);
        it.soon(1);
        it.ahead(-1, 120);
        it.letters(120);
        it.rescue(3, 120, 0);
        it.undo();
        it.undo();
    }
}
