import com.sun.management.ThreadMXBean;
import java.lang.management.ManagementFactory;

/** All that a run of 512 calls makes has to find room: some 600,000 objects, 7.3 million fields and elements. */
public final class RoomTest {
    /** An object takes 16 bytes or more, a field or an element one or more, so this many bytes hold neither too many. */
    private static final long MOST_BYTES = 7300000;
    private static final int CALLS = 512;
    private static final ThreadMXBean THREADS = (ThreadMXBean) ManagementFactory.getThreadMXBean();

    public static void main(String[] args) {
        Check.run(RoomTest::newObjects, RoomTest::itemsWithoutAKind, RoomTest::lawsAndMoves, RoomTest::fullYears);
        Check.end("RoomTest");
    }

    private static long made() {
        return THREADS.getCurrentThreadAllocatedBytes();
    }

    /** A tenth of the room is asked for, since another machine may count what it makes otherwise. */
    private static void sameRoom(String what, long before) {
        long bytes = made() - before;
        Check.same(what + ", " + bytes + " bytes, has room", bytes > 0 && bytes < MOST_BYTES / 10, true);
    }

    private static void newObjects() {
        long before = made();
        for (int object = 0; object < 100; object++) {
            new Escheatry();
        }
        sameRoom("a hundred new objects", before);
    }

    private static void itemsWithoutAKind() {
        long before = made();
        Escheatry x = new Escheatry();
        x.holder(0);
        for (int calls = 1; calls < CALLS - 7; calls += 8) {
            Tell.type(x, "accounx");
            x.item(0, Escheatry.NONE, 1);
        }
        sameRoom("items without a kind", before);
    }

    private static void lawsAndMoves() {
        long before = made();
        Escheatry x = new Escheatry();
        x.owner(0);
        for (int calls = 1; calls < CALLS - 2; calls += 3) {
            x.law(0, 0, 1);
            x.move(0, calls % 5);
            x.pass(1);
        }
        sameRoom("a law and a move each year", before);
    }

    private static void fullYears() {
        long before = made();
        Escheatry x = Tell.place();
        Tell.items(x, 24, Tell.WAGE, 0, 0, 10000);
        for (int item = 0; item < 24; item++) {
            x.send(item);
        }
        x.pass(20);
        for (int item = 0; item < 24; item++) {
            x.claim(0, item, true);
        }
        Tell.until(x, 400);
        int calls = 4 + 24 * 5 + 24 + 1 + 24 + 19;
        while (calls < CALLS) {
            x.purseAnew(calls++ % 5);
        }
        sameRoom("24 payments and claims, 400 years", before);
    }
}
