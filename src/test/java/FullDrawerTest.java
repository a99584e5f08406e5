/**
 * All 4096 boxes, far beyond the 512 calls of which the document speaks: the answers are free
 * there, but no call may throw what it has no cause to throw.
 */
public final class FullDrawerTest {
    private static final int FAR = 1000000000;

    public static void main(String[] args) {
        BoxDrawer d = new BoxDrawer();
        for (int i = 0; i < 4096; i++) {
            int number = i * 1365 % 4096;
            nothing("put " + number, () -> d.put(number, -number, -number, number, number));
        }
        for (int what = 0; what < 3; what++) {
            int asked = what;
            nothing("find " + what, () -> d.find(asked, -FAR, -FAR, FAR, FAR));
            nothing("find " + what + " of a place", () -> d.find(asked, 0, 0, 0, 0));
            everyNumber(d);
        }
        nothing("nearest", () -> d.nearest(FAR, FAR, 4096));
        everyNumber(d);
        nothing("nearest of equally near ones", () -> d.nearest(0, 0, 4096));
        everyNumber(d);
        nothing("nearest 1", () -> d.nearest(-FAR, FAR, 1));
        nothing("pairs", () -> d.pairs());
        everyNumber(d);
        nothing("bounds", () -> d.bounds(3));
        for (int i = 0; i < 4096; i++) {
            int number = i * 5 % 4096;
            nothing("take " + number, () -> d.take(number));
        }
        nothing("pairs of none", () -> d.pairs());
        nothing("nearest of none", () -> d.nearest(0, 0, 4096));
        Check.end();
    }

    private static void everyNumber(BoxDrawer d) {
        for (int i = 0; i < d.count(1); i++) {
            int k = i;
            nothing("result " + k, () -> d.result(k));
        }
    }

    private static void nothing(String call, Check.Call made) {
        Check.throwing(call, null, made);
    }
}
