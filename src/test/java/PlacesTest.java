import java.util.ArrayList;
import java.util.List;

/**
 * The terms of the document taken at their word: a box is the row of its places, and whether two
 * meet, lie in one another or are near is told by looking at each place, never at the bounds.
 * Every box of a small grid is held against every other.
 */
public final class PlacesTest {
    private static final int EDGE = 2;
    private static final int OUTSIDE = EDGE + 2;
    private static final int LOWER = 7;
    private static final int HIGHER = 8;

    public static void main(String[] args) {
        List<int[]> all = allBoxes();
        Check.same("boxes of the grid", all.size(), 225);
        for (int[] bounds : all) {
            distancesOfOne(bounds);
        }
        for (int[] one : all) {
            for (int[] other : all) {
                oneAndWindow(one, other);
                pairOf(one, other);
                nearerOf(one, other);
            }
        }
        Check.end();
    }

    private static List<int[]> allBoxes() {
        List<int[]> all = new ArrayList<>();
        for (int lowX = -EDGE; lowX <= EDGE; lowX++) {
            for (int lowY = -EDGE; lowY <= EDGE; lowY++) {
                for (int highX = lowX; highX <= EDGE; highX++) {
                    for (int highY = lowY; highY <= EDGE; highY++) {
                        all.add(new int[] {lowX, lowY, highX, highY});
                    }
                }
            }
        }
        return all;
    }

    /** Each place of the grid is one bit: set, where the place is in the box. */
    private static int places(int[] bounds) {
        int set = 0;
        for (int x = bounds[0]; x <= bounds[2]; x++) {
            for (int y = bounds[1]; y <= bounds[3]; y++) {
                set |= 1 << bit(x, y);
            }
        }
        return set;
    }

    private static int bit(int x, int y) {
        return (x + EDGE) * (2 * EDGE + 1) + y + EDGE;
    }

    private static boolean meet(int places, int others) {
        return (places & others) != 0;
    }

    private static boolean lieIn(int places, int others) {
        return (places & ~others) == 0;
    }

    private static long nearestPlace(int places, int x, int y) {
        long least = Long.MAX_VALUE;
        for (int px = -EDGE; px <= EDGE; px++) {
            for (int py = -EDGE; py <= EDGE; py++) {
                if ((places >> bit(px, py) & 1) != 0) {
                    least = Math.min(least, (px - x) * (px - x) + (py - y) * (py - y));
                }
            }
        }
        return least;
    }

    private static void distancesOfOne(int[] bounds) {
        BoxDrawer d = new BoxDrawer();
        put(d, LOWER, bounds);
        for (int x = -OUTSIDE; x <= OUTSIDE; x++) {
            for (int y = -OUTSIDE; y <= OUTSIDE; y++) {
                Check.same(told(bounds) + " from " + x + ", " + y, d.distance(LOWER, x, y),
                        nearestPlace(places(bounds), x, y));
            }
        }
    }

    private static void oneAndWindow(int[] bounds, int[] window) {
        int its = places(bounds);
        int ofWindow = places(window);
        boolean[] due = {meet(its, ofWindow), lieIn(its, ofWindow), lieIn(ofWindow, its)};
        BoxDrawer d = new BoxDrawer();
        put(d, LOWER, bounds);
        for (int what = 0; what < 3; what++) {
            String call = told(bounds) + ", find " + what + " of " + told(window);
            int got = d.find(what, window[0], window[1], window[2], window[3]);
            Check.same(call, got, due[what] ? 1 : 0);
            Check.same(call + ", count(1)", d.count(1), due[what] ? 1 : 0);
        }
    }

    private static void pairOf(int[] lower, int[] higher) {
        boolean due = meet(places(lower), places(higher));
        BoxDrawer d = both(lower, higher);
        Check.same(told(lower) + " and " + told(higher) + ", pairs", d.pairs(), due ? 1 : 0);
        Check.same(told(lower) + " and " + told(higher) + ", count(1)", d.count(1), due ? 2 : 0);
    }

    private static void nearerOf(int[] lower, int[] higher) {
        BoxDrawer d = both(lower, higher);
        int[][] asked = {{0, 0}, {OUTSIDE, -OUTSIDE}, {-1, OUTSIDE}};
        for (int[] place : asked) {
            long wayToLower = nearestPlace(places(lower), place[0], place[1]);
            long wayToHigher = nearestPlace(places(higher), place[0], place[1]);
            int due = wayToHigher < wayToLower ? HIGHER : LOWER;
            String call = told(lower) + " and " + told(higher) + ", nearest " + told(place);
            Check.same(call, d.nearest(place[0], place[1], 1), 1);
            Check.same(call, d.result(0), due);
            Check.same(call + ", both", d.nearest(place[0], place[1], 2), 2);
            Check.same(call + ", both", d.result(0), due);
            Check.same(call + ", both", d.result(1), LOWER + HIGHER - due);
        }
    }

    private static BoxDrawer both(int[] lower, int[] higher) {
        BoxDrawer d = new BoxDrawer();
        put(d, HIGHER, higher);
        put(d, LOWER, lower);
        return d;
    }

    private static void put(BoxDrawer d, int number, int[] bounds) {
        d.put(number, bounds[0], bounds[1], bounds[2], bounds[3]);
    }

    private static String told(int[] numbers) {
        return java.util.Arrays.toString(numbers);
    }
}
