import com.sun.management.ThreadMXBean;
import java.lang.management.ManagementFactory;

/** The heaviest costs there may be: all answers come, and 512 calls stay in their room. */
public final class RoomTest {
    /** 7.3 million fields and elements of at least 4 bytes each, less a margin. */
    private static final long ROOM = 7300000L * 4 * 9 / 10;
    private static final Due due = new Due();

    public static void main(String[] args) {
        grow();
        ThreadMXBean threads = (ThreadMXBean) ManagementFactory.getThreadMXBean();
        fill();
        long before = threads.getThreadAllocatedBytes(Thread.currentThread().getId());
        int calls = heavyActs();
        long used = threads.getThreadAllocatedBytes(Thread.currentThread().getId()) - before;
        due.same("calls", 512, calls);
        due.same("bytes used: " + used + ", few enough", 1, used < ROOM ? 1 : 0);
        before = threads.getThreadAllocatedBytes(Thread.currentThread().getId());
        for (int i = 0; i < 100; i++) {
            new SlopeKeeper();
        }
        used = threads.getThreadAllocatedBytes(Thread.currentThread().getId()) - before;
        due.same("bytes of a hundred new ones: " + used + ", few enough", 1, used < ROOM / 10 ? 1 : 0);
        due.end();
    }

    /** A move parts the kink where the flat is: room for one more is due however many there are. */
    private static void grow() {
        SlopeKeeper keeper = new SlopeKeeper();
        for (int i = 1; i <= 120; i++) {
            if (keeper.count(0) == 39) {
                int other = 2 + i / 38 % 2;
                keeper.copy(other, 0);
                keeper.text(0, 0);
                keeper.does(0, 8, other, 0);
            }
            keeper.does(0, i == 1 ? 0 : 1, 3 * i - 400, 1);
            due.same("kinks", i, keeper.flat(0, 3));
            keeper.does(0, 4, 1, 0);
            due.same("one is parted", i + 1, keeper.flat(0, 3));
            due.same("weights", i + 1, keeper.flat(0, 4));
            keeper.undo();
        }
    }

    /** 4800 kinks of weight 1 in cost 2, by 'and' of 800 and those by 'and' of 40. */
    private static SlopeKeeper fill() {
        SlopeKeeper keeper = new SlopeKeeper();
        for (int i = 0; i < 40; i++) {
            keeper.does(0, i % 2 + 1, i, 1);
        }
        for (int i = 0; i < 20; i++) {
            keeper.does(1, 8, 0, 0);
            keeper.does(1, 3, 40, 0);
        }
        for (int i = 0; i < 6; i++) {
            keeper.does(2, 8, 1, 0);
            keeper.does(2, 3, 400, 0);
            keeper.does(2, 3, 400, 0);
            if (i == 2) {
                for (int k = 0; k < 10; k++) {
                    keeper.does(2, 3, -500, 0);
                }
            }
        }
        due.same("kinks", 4800, keeper.flat(2, 3));
        due.same("weights", 4800, keeper.flat(2, 4));
        return keeper;
    }

    private static int heavyActs() {
        SlopeKeeper keeper = fill();
        int calls = 40 + 40 + 18 + 10 + 2;
        while (calls + 9 <= 512) {
            due.same("rise and fall stay", 29, keeper.does(2, 7, 1, 0));
            due.same("copy", 29, keeper.copy(3, 2));
            due.same("another act", 30, keeper.does(2, 4, 1, 1));
            due.same("takes", 29, keeper.takes(2, 28));
            due.same("puts", 30, keeper.puts(2, 3, 7, 0, 0));
            due.same("undo", 1, keeper.undo() > 0 ? 1 : 0);
            due.same("takes", 28, keeper.takes(2, 28));
            keeper.image();
            keeper.restore();
            calls += 9;
        }
        due.same("dearest", 1, keeper.dearest(2) >= 0 ? 1 : 0);
        due.same("gap", 0, keeper.gap(2, 2));
        due.same("shared", 1, keeper.shared(15, 4000) >= 0 ? 1 : 0);
        calls += 3;
        while (calls < 512) {
            due.same("path", 1, keeper.at(2, keeper.path(2, 100, 28)) >= keeper.least(2) ? 1 : 0);
            calls += 3;
        }
        return Math.min(calls, 512);
    }
}
