import java.lang.management.ManagementFactory;

/** What a run makes in objects: far less than the room that all calls of one run have together. */
public final class RoomTest {
    // 7.3 million elements of four bytes; a tenth of it is what the dearest run may take.
    private static final long MOST_BYTES = 7_300_000L * 4 / 10;

    private static final com.sun.management.ThreadMXBean THREAD =
            (com.sun.management.ThreadMXBean) ManagementFactory.getThreadMXBean();

    public static void main(String[] args) {
        taken("says, and nothing else", RoomTest::says);
        taken("views, again and again", RoomTest::views);
        taken("long logs in all views", RoomTest::longLogs);
        taken("clocks", RoomTest::clocks);
        Checks.end("room");
    }

    private static void taken(String name, Runnable run) {
        run.run();
        long before = THREAD.getCurrentThreadAllocatedBytes();
        run.run();
        long bytes = THREAD.getCurrentThreadAllocatedBytes() - before;
        System.out.println(name + ": " + bytes + " bytes");
        Checks.due(name + " takes too much", bytes > MOST_BYTES ? 1 : 0, 0);
    }

    private static void says() {
        OrderedCast x = new OrderedCast(5, 0);
        for (int i = 0; i < 512; i++) {
            if (i % 61 == 60) {
                x.clear();
            } else {
                x.say(0, i);
            }
        }
    }

    private static void views() {
        OrderedCast x = new OrderedCast(5, 0);
        for (int i = 0; i < 512; i += 6) {
            x.crash(0);
            for (int node = 1; node < 5; node++) {
                x.suspect(node, 0);
            }
            x.clear();
        }
    }

    private static void longLogs() {
        OrderedCast x = new OrderedCast(5, 0);
        for (int i = 0; i < 60; i++) {
            x.say(0, i);
            x.deliver(0, 4);
        }
        for (int leader = 0; leader < 4; leader++) {
            x.crash(leader);
            for (int node = leader + 1; node < 5; node++) {
                x.suspect(node, leader);
                x.deliver(node, leader + 1 == node ? leader : leader + 1);
            }
            for (int k = 0; k < 40; k++) {
                for (int node = leader + 2; node < 5; node++) {
                    x.deliver(leader + 1, node);
                }
            }
        }
        Checks.due("view", x.told(4, 1), 4);
        Checks.due("places", x.told(4, 3), 60);
    }

    private static void clocks() {
        OrderedCast x = new OrderedCast(5, 1);
        for (int i = 0; i < 60; i++) {
            x.say(i % 5, i);
        }
        for (int i = 0; i < 452; i++) {
            int from = i % 5;
            int to = (from + 1 + i / 5 % 4) % 5;
            x.deliver(from, to);
        }
    }
}
