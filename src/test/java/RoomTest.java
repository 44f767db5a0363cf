import com.sun.management.ThreadMXBean;
import java.lang.management.ManagementFactory;

/**
 * All calls of a run live in one room of some 600,000 objects and arrays with 7.3 million fields and elements in all.
 * An object takes 16 bytes or more and a field or element one or more, so a run that takes less bytes than these has
 * room. Each dear call is made as often as an object's 512 calls let it be.
 */
public final class RoomTest {
    private static final int CALLS = 490;
    private static final long MOST_BYTES = 7_300_000;

    private interface Call {
        int make(StreamFilters x, int k);
    }

    public static void main(String[] args) {
        takes("read of 45 patterns", "a;".repeat(45), (x, k) -> x.read(k % 10, true));
        takes("read of one long pattern", "a".repeat(90), (x, k) -> x.read(k % 10, true));
        takes("read of a BAD text", ";".repeat(89) + "!", (x, k) -> x.read(k % 10, true));
        takes("fault", ";".repeat(89) + "!", (x, k) -> x.fault());
        takes("join", "a", (x, k) -> x.join(1 + k % 9, 0, 0));
        takes("strict", "a", (x, k) -> x.strict(1 + k % 9, 0, true));
        takes("otherwise", "a", (x, k) -> x.otherwise(1 + k % 9, 0, 1));
        takes("only", "a".repeat(90), (x, k) -> x.only(1 + k % 9, 0));
        takes("type and clear", "a", (x, k) -> k % 2 == 0 ? x.clear(0) : x.type(0, 'a'));
        asksTakeNothing();
        Checks.end();
    }

    private static long bytesTaken() {
        return ((ThreadMXBean) ManagementFactory.getThreadMXBean()).getCurrentThreadAllocatedBytes();
    }

    /** Filter 0 is there and PATTERN holds the text when the calls are made. */
    private static void takes(String what, String text, Call call) {
        // What the first turn takes is in part the machine's own, for the call itself.
        takenBy(text, call);
        long taken = takenBy(text, call);
        Checks.due(what + " took " + taken + " bytes, and that it has room", taken < MOST_BYTES ? 1 : 0, 1);
    }

    private static long takenBy(String text, Call call) {
        long before = bytesTaken();
        StreamFilters x = new StreamFilters();
        x.read(0, true);
        Checks.put(x, Checks.PATTERN, text);
        for (int k = 0; k < CALLS; k++) {
            call.make(x, k);
        }
        return bytesTaken() - before;
    }

    private static void asksTakeNothing() {
        StreamFilters x = new StreamFilters();
        Checks.put(x, Checks.PATTERN, "b;".repeat(45));
        Checks.makeTwentyFourLeaves(x, 0);
        x.type(1, 'a');
        bytesTaken();
        long before = bytesTaken();
        for (int k = 0; k < 400; k++) {
            x.ask(0, 1, 0, 0);
        }
        long taken = bytesTaken() - before;
        Checks.due("400 asks took " + taken + " bytes, and that it is next to none", taken < 10_000 ? 1 : 0, 1);
    }
}
