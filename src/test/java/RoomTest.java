import java.lang.management.ManagementFactory;

/** What objects and calls take of the room: all rows are made by the constructor, none by a call. */
public final class RoomTest {

    private static final com.sun.management.ThreadMXBean THREADS =
            (com.sun.management.ThreadMXBean) ManagementFactory.getThreadMXBean();
    private static final int ROUNDS = 20;
    private static final long MOST_BYTES_OF_AN_OBJECT = 8_000;
    /** Less than one object a call. */
    private static final long MOST_BYTES_OF_THE_CALLS = 4_000;

    private static int answers;

    public static void main(String[] args) {
        Checks checks = new Checks("RoomTest");
        calls(new ThirdVotes());
        long start = allocated();
        ThirdVotes x = new ThirdVotes();
        long made = allocated();
        calls(x);
        long called = allocated();
        checks.holds("an object is small, it took " + (made - start) + " bytes",
                made - start <= MOST_BYTES_OF_AN_OBJECT);
        checks.holds("calls make nothing, they took " + (called - made) + " bytes",
                called - made <= MOST_BYTES_OF_THE_CALLS);
        checks.holds("the calls were made", answers != 0);
        checks.close();
    }

    private static long allocated() {
        return THREADS.getThreadAllocatedBytes(Thread.currentThread().getId());
    }

    /** Each method, some often; 501 calls in all. */
    private static void calls(ThirdVotes x) {
        for (int round = 0; round < ROUNDS; round++) {
            answers += x.send(85) + x.pause(30) + x.sendBreak(3) + x.disturb(5, 3) + x.set(1, 16 + round % 2);
            answers += x.learn() + x.type('2') + x.type('(') + x.type('.') + x.type('1') + x.type(')') + x.perform();
            answers += x.clearText() + x.undo() + x.keep() + x.restore() + x.level(7) + x.fall(2) + x.sent(0);
            answers += x.received(0, 1) + x.total(14) + x.ifLength(17, 0) + x.harm(1) + x.ifSent(85);
            answers += x.goodLength(round == 0) + (round == 9 ? x.clear() : 0);
        }
    }
}
