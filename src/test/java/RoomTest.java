import java.lang.management.ManagementFactory;

/** Calls make no objects: all rows are made once, by the constructor, which keeps small. */
public final class RoomTest {
    private static final com.sun.management.ThreadMXBean THREADS =
        (com.sun.management.ThreadMXBean) ManagementFactory.getThreadMXBean();
    private static final String TEXT =
        "plain 3 0;gloved 1 2;child 0 5;master 4 4;plain 2 1;left 0;left 4;slack 2;plan 3 24 0 8 31 17;";

    private RoomTest() {
    }

    private static long made() {
        return THREADS.getThreadAllocatedBytes(Thread.currentThread().getId());
    }

    public static void main(String[] args) {
        HandLock x = new HandLock();
        callAll(x);
        long before = made();
        for (int i = 0; i < 200; i++) {
            callAll(x);
        }
        long ofCalls = made() - before;
        // What the measuring makes itself is some hundred bytes.
        Due.isTrue("200 times all calls made " + ofCalls + " bytes", ofCalls < 4096);
        before = made();
        for (int i = 0; i < 100; i++) {
            x = new HandLock();
        }
        long ofObjects = made() - before;
        Due.isTrue("100 objects took " + ofObjects + " bytes", ofObjects < 100 * 8192);
        Due.finish();
    }

    private static void callAll(HandLock x) {
        for (int i = 0; i < TEXT.length(); i++) {
            x.feed(TEXT.charAt(i));
        }
        x.text();
        x.feed(1);
        x.end(0);
        x.fault();
        for (int i = 0; i < 20; i++) {
            x.rule(i);
            x.one(i % 5, i % 6);
            x.act(i);
            x.alter(i % 5, 1 + i % 2, i);
            x.slack(i % 10);
            x.plan(i);
            x.cut(6);
            x.turn(i);
            x.rest(i % 2);
            x.runs(i % 4);
            x.ahead(i % 5);
            x.round();
            x.order(31, i);
            x.await(i % 5, 10);
            x.hands(0);
            x.clean(0);
            x.trade(0);
            x.loose();
            x.mean(3, 0);
            x.luck(3, i % 5, 0);
            x.see(i % 8, i % 5);
            x.forget(0);
            x.counts(i % 5, 0);
            x.slacks();
            x.look(i % 5, 0);
            x.drift(i, 60, 0);
            x.keep(i % 2);
            x.back(i % 2);
            x.sheet(i % 4, i % 3, 40);
            x.lay(i % 4, i, 1);
            x.read(i % 4, i % 3, 0, 20);
            x.torn();
            x.count(i % 6);
        }
    }
}
