import com.sun.management.ThreadMXBean;
import java.lang.management.ManagementFactory;
import java.util.Arrays;

/**
 * All calls of a run live in one room of some 600,000 objects and 7.3 million fields and elements. No object takes less
 * than 16 bytes and no element less than one, so a run that makes a million bytes fits many times over.
 */
public final class RoomTest {
    private static final int MOST_CALLS = 512;
    private static final long MOST_BYTES = 1_000_000;
    private static final Check CHECK = new Check();
    private static final ThreadMXBean THREADS = (ThreadMXBean) ManagementFactory.getThreadMXBean();

    private interface Run {
        void on(Store store, int call);
    }

    public static void main(String[] args) {
        byte[] middle = new Maker("a", Key.small(1), "a", Key.small(1)).with(Maker.ca()).certificate();
        byte[] longest = manyNames();
        byte[] longestList = manyEntries();
        room("no text at all", new Store(), RoomTest::wrongText);
        Store reading = new Store();
        room("the longest certificates", reading, (store, call) -> longText(store, longest, false));
        CHECK.yes("2,000 octets and more, " + longest.length, longest.length > 2000 && reading.x.count(0) > 3);
        room("the longest lists", reading, (store, call) -> longText(store, longestList, true));
        CHECK.yes("2,000 octets and more, " + longestList.length, longestList.length > 2000 && reading.x.count(1) > 2);
        Store full = new Store();
        for (int c = 0; c < 16; c++) {
            full.certificate(middle, c == 15);
        }
        room("searches to the end", full, (store, call) -> store.x.validate(call % 15, Maker.NOON_2020, 16, true));
        Store named = new Store();
        named.certificate(longest, true);
        room("covers", named, (store, call) -> store.x.covers(0, call + 1L, call, 0, 0));
        room("signed", full, (store, call) -> store.x.signed(false, call % 16, call / 16 % 16));
        CHECK.end();
    }

    /** Run once before it is measured, since the machine makes objects of its own when it meets code first. */
    private static void room(String what, Store store, Run run) {
        Store other = new Store();
        for (int call = 0; call < 20; call++) {
            quietly(run, other, call);
        }
        long before = THREADS.getCurrentThreadAllocatedBytes();
        for (int call = 0; call < MOST_CALLS; call++) {
            quietly(run, store, call);
        }
        long made = THREADS.getCurrentThreadAllocatedBytes() - before;
        if (made > MOST_BYTES) {
            CHECK.tell(what + ": " + made + " bytes in 512 calls");
        }
    }

    private static void quietly(Run run, Store store, int call) {
        try {
            run.on(store, call);
        } catch (IndexOutOfBoundsException | IllegalArgumentException refused) {
            // What is refused takes room as well, the exception's own with it.
        }
    }

    private static void wrongText(Store store, int call) {
        if (call % 2 == 0) {
            store.x.certificate(0, false);
        } else {
            store.x.list(0);
        }
    }

    /** A call of feed(), or one that reads what was fed. */
    private static void longText(Store store, byte[] text, boolean list) {
        int at = store.x.count(4);
        if (at < text.length) {
            store.feed(Arrays.copyOfRange(text, at, Math.min(at + 20, text.length)));
        } else if (list) {
            store.x.list(text.length);
        } else {
            store.x.certificate(text.length, false);
        }
    }

    /** As many of the shortest names as 2,048 octets hold. */
    private static byte[] manyNames() {
        Node[] names = new Node[580];
        for (int n = 0; n < names.length; n++) {
            names[n] = Maker.dns("a");
        }
        return new Maker("a", Key.small(1), "a", Key.small(1)).with(Maker.names(names)).certificate();
    }

    private static byte[] manyEntries() {
        Maker maker = new Maker("a", Key.small(1));
        for (int n = 0; n < 64; n++) {
            maker.entries.add(Maker.entry(n + 1, Maker.extension("1.2", false, Node.raw())));
        }
        return maker.list();
    }
}
