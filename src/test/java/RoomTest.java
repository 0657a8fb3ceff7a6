import java.lang.management.ManagementFactory;

/** What the longest runs of calls take of the room: 600,000 objects and arrays, 7.3 million fields and elements. */
public final class RoomTest {

    private static final com.sun.management.ThreadMXBean THREADS =
            (com.sun.management.ThreadMXBean) ManagementFactory.getThreadMXBean();
    private static final int CALLS = 500;
    /** What takes more cannot keep to the room, whatever it makes: no element has more bytes, and no head. */
    private static final long MOST_BYTES = 7_300_000L * 8 + 600_000L * 16;

    private static int answers;

    public static void main(String[] args) {
        Checks checks = new Checks("RoomTest");
        room(checks, "harm", CALLS, x -> x.harm(1));
        room(checks, "goodLength", CALLS, x -> x.goodLength(true));
        room(checks, "ifSent", CALLS, x -> x.ifSent(85));
        room(checks, "received", CALLS, x -> x.received(9, 4));
        room(checks, "total", CALLS, x -> x.total(14));
        room(checks, "perform and undo", CALLS / 2, x -> x.perform() + x.undo());
        room(checks, "keep and restore", CALLS / 2, x -> x.keep() + x.restore());
        room(checks, "disturb", CALLS, x -> x.disturb(7, 40));
        checks.holds("the calls were made", answers != 0);
        checks.close();
    }

    private static void room(Checks checks, String name, int calls, Call call) {
        longRun(calls, call);
        long before = THREADS.getThreadAllocatedBytes(Thread.currentThread().getId());
        longRun(calls, call);
        long bytes = THREADS.getThreadAllocatedBytes(Thread.currentThread().getId()) - before;
        checks.holds("a run of " + name + " keeps to the room, it took " + bytes + " bytes",
                bytes <= MOST_BYTES);
    }

    /** A wire with eight words on it, with room for another one, and a call again and again. */
    private static void longRun(int calls, Call call) {
        ThirdVotes x = new ThirdVotes();
        Checks.write(x, "85");
        for (int word = 0; word < 8; word++) {
            x.send(85);
        }
        for (int made = 0; made < calls; made++) {
            answers += call.on(x);
        }
    }
}
