import com.sun.management.ThreadMXBean;
import java.lang.management.ManagementFactory;

/** What a run of 512 calls makes stays far below its room of 600,000 objects and 7.3 million fields and elements. */
public final class RoomTest extends Checks {
    // Every element has a byte at least and every object sixteen: less than 2 million elements and 125,000 objects.
    private static final long MOST_BYTES_MADE = 2_000_000;
    private static final int ENDS = 0x0a0a0a0a;

    private interface Calls {
        void make(LineSorter sorter, int call);
    }

    public static void main(String[] args) {
        dueSmall("feeds", 0, (x, call) -> x.feed(ENDS, ENDS, ENDS, ENDS, ENDS));
        dueSmall("sorts", 50, (x, call) -> x.sort());
        dueSmall("merges", 50, (x, call) -> x.merge(call));
        dueSmall("checks", 400, (x, call) -> x.check());
        dueSmall("keys", 50, RoomTest::keysAndKeyless);
        dueSmall("places and compares", 50, RoomTest::placeAndCompare);
        dueSmall("refused sorts", 51, (x, call) -> thrownBy(x::sort));
        dueSmall("refused keys", 0, (x, call) -> thrownBy(() -> x.key(0, 0, -1, -1, -1)));
        finish();
    }

    private static void keysAndKeyless(LineSorter sorter, int call) {
        if (call % 7 == 0) {
            sorter.keyless();
        } else {
            sorter.key(1, 1, 1, 0, NUMBERS);
        }
    }

    private static void placeAndCompare(LineSorter sorter, int call) {
        if (call % 2 == 0) {
            sorter.place(call, 0, true);
        } else {
            sorter.compare(call, call - 1);
        }
    }

    private static void dueSmall(String what, int feeds, Calls calls) {
        under("the room");
        // The first run also makes what Java itself needs for it.
        run(feeds, calls);
        ThreadMXBean threads = (ThreadMXBean) ManagementFactory.getThreadMXBean();
        long before = threads.getCurrentThreadAllocatedBytes();
        run(feeds, calls);
        long made = threads.getCurrentThreadAllocatedBytes() - before;
        due(what + " make less than " + MOST_BYTES_MADE + " bytes, here " + made, made < MOST_BYTES_MADE, true);
    }

    private static void run(int feeds, Calls calls) {
        LineSorter sorter = new LineSorter();
        for (int call = 1; call <= feeds; call++) {
            sorter.feed(ENDS, ENDS, ENDS, ENDS, ENDS);
        }
        for (int call = feeds + 1; call <= 512; call++) {
            calls.make(sorter, call);
        }
    }
}
