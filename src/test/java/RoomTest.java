import java.lang.management.ManagementFactory;

/**
 * What a run of 512 calls makes, in bytes: all of it stays in one room, so the dearest runs must
 * be far from filling it. The room has some 7.3 million fields and elements; a call that made a
 * row of its own each time would show here.
 */
public final class RoomTest {
    private static final int CALLS = 512;
    private static final long MOST_BYTES = 1000000;
    private static final com.sun.management.ThreadMXBean THREADS =
            (com.sun.management.ThreadMXBean) ManagementFactory.getThreadMXBean();

    private interface Asked {
        void ask(BoxDrawer drawer, int call);
    }

    public static void main(String[] args) {
        for (int puts : new int[] {100, 256, 511}) {
            dear(puts + " puts, then pairs", puts, (d, call) -> d.pairs());
            dear(puts + " puts, then nearest", puts, (d, call) -> d.nearest(call, 0, 4096));
            dear(puts + " puts, then find", puts, (d, call) -> d.find(call % 3, 0, 0, call, call));
            dear(puts + " puts, then all in turn", puts, RoomTest::inTurn);
        }
        dear("the same box put again", 1, (d, call) -> d.put(0, 0, 0, call, call));
        dear("cleared and put", 1, (d, call) -> {
            if (call % 2 == 0) {
                d.clear();
            } else {
                d.put(call, 0, 0, 1, 1);
            }
        });
        Check.end();
    }

    private static void inTurn(BoxDrawer d, int call) {
        switch (call % 5) {
            case 0 -> d.pairs();
            case 1 -> d.nearest(0, call, 1 + call % 7);
            case 2 -> d.find(0, -call, -call, call, call);
            case 3 -> d.bounds(call % 4);
            default -> d.count(1);
        }
    }

    private static void dear(String name, int puts, Asked asked) {
        run(puts, asked);
        long before = THREADS.getCurrentThreadAllocatedBytes();
        run(puts, asked);
        long made = THREADS.getCurrentThreadAllocatedBytes() - before;
        if (made > MOST_BYTES) {
            Check.say(name + " made " + made + " bytes, the most is " + MOST_BYTES);
        }
    }

    private static void run(int puts, Asked asked) {
        BoxDrawer d = new BoxDrawer();
        for (int call = 0; call < puts; call++) {
            d.put(4095 - 8 * call, -call, -call, call, call);
        }
        for (int call = puts; call < CALLS; call++) {
            asked.ask(d, call);
        }
    }
}
