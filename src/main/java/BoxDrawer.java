import java.util.ArrayList;
import java.util.Arrays;

/**
 * A drawer of boxes in the plane, asked again and again which of them meet a window, lie in it,
 * are nearest to a place, or meet one another.
 */
public final class BoxDrawer {
    /** Nothing there. */
    public static final int NONE = -1;

    private static final int NUMBERS = 4096;
    private static final int FARTHEST = 1000000000;

    private static final int MEETING = 0;
    private static final int LYING_IN = 1;
    private static final int HAVING_IN_IT = 2;

    private static final int LEAST_X = 0;
    private static final int LEAST_Y = 1;
    private static final int GREATEST_X = 2;
    private static final int GREATEST_Y = 3;

    private static final int PAIRS_KEPT = 2048;
    private static final int LONGEST_RESULT = 4096;
    private static final int FIRST_ROOM = 16;

    // By rising number: so a walk over the list finds the lowest number first.
    private final ArrayList<Box> boxes;

    private int[] found;
    private int foundCount;

    // Used by nearest alone: the distance of each box in the row found.
    private long[] foundDistances;

    /** No boxes. */
    public BoxDrawer() {
        boxes = new ArrayList<>();
        found = new int[FIRST_ROOM];
        foundCount = 0;
        foundDistances = new long[FIRST_ROOM];
    }

    /** Puts a box with these bounds: whether one of its number was there. */
    public boolean put(int box, int lowX, int lowY, int highX, int highY)
            throws IndexOutOfBoundsException, IllegalArgumentException {
        requireNumber(box);
        requireBounds(lowX, lowY, highX, highY);
        Box newBox = new Box(box, lowX, lowY, highX, highY);
        int at = indexFor(box);
        if (isAt(at, box)) {
            boxes.set(at, newBox);
            return true;
        }
        boxes.add(at, newBox);
        return false;
    }

    /** Takes a box away: whether it was there. */
    public boolean take(int box) throws IndexOutOfBoundsException {
        requireNumber(box);
        int at = indexFor(box);
        if (!isAt(at, box)) {
            return false;
        }
        boxes.remove(at);
        return true;
    }

    /** Takes all boxes away: how many there were. */
    public int clear() {
        int were = boxes.size();
        boxes.clear();
        return were;
    }

    /** Finds the boxes that meet a window (0), lie in it (1) or have it in them (2): how many. */
    public int find(int what, int lowX, int lowY, int highX, int highY)
            throws IllegalArgumentException {
        requireBounds(lowX, lowY, highX, highY);
        if (what < MEETING || what > HAVING_IN_IT) {
            throw new IllegalArgumentException("what is none of 0, 1, 2");
        }
        Box window = new Box(NONE, lowX, lowY, highX, highY);
        foundCount = 0;
        for (int i = 0; i < boxes.size(); i++) {
            Box candidate = boxes.get(i);
            if (fits(what, candidate, window)) {
                append(candidate.number);
            }
        }
        return foundCount;
    }

    /** Finds the n boxes nearest to a place, the nearest first: how many. */
    public int nearest(int x, int y, int n) throws IllegalArgumentException {
        if (n < 1 || n > NUMBERS) {
            throw new IllegalArgumentException("n is none of 1 .. 4096");
        }
        requirePlace(x, y);
        int most = Math.min(n, boxes.size());
        foundCount = 0;
        makeRoom(most);
        makeRoomForDistances();
        for (int i = 0; i < boxes.size(); i++) {
            Box candidate = boxes.get(i);
            insertByDistance(candidate.number, candidate.distanceFrom(x, y), most);
        }
        return foundCount;
    }

    /** Finds the pairs of boxes that meet, the first 2048 of them: how many there are in all. */
    public int pairs() {
        foundCount = 0;
        int meeting = 0;
        for (int i = 0; i < boxes.size(); i++) {
            Box lower = boxes.get(i);
            for (int j = i + 1; j < boxes.size(); j++) {
                Box higher = boxes.get(j);
                if (lower.meets(higher)) {
                    if (meeting < PAIRS_KEPT) {
                        append(lower.number);
                        append(higher.number);
                    }
                    meeting++;
                }
            }
        }
        return meeting;
    }

    /** The distance of a place from a box: the square of the way to it, 0 inside. */
    public long distance(int box, int x, int y)
            throws IndexOutOfBoundsException, IllegalArgumentException {
        Box there = requireBox(box);
        requirePlace(x, y);
        return there.distanceFrom(x, y);
    }

    /** Of all boxes together: least x (0), y (1), greatest x (2), y (3). */
    public int bounds(int what) throws IndexOutOfBoundsException, IllegalStateException {
        requireBound(what);
        if (boxes.isEmpty()) {
            throw new IllegalStateException("no boxes");
        }
        int outermost = boxes.get(0).bound(what);
        for (int i = 1; i < boxes.size(); i++) {
            int next = boxes.get(i).bound(what);
            outermost = isLeast(what) ? Math.min(outermost, next) : Math.max(outermost, next);
        }
        return outermost;
    }

    /** Number k of the result. */
    public int result(int k) throws IndexOutOfBoundsException {
        if (k < 0 || k >= foundCount || k >= found.length) {
            throw new IndexOutOfBoundsException("no such place in the result");
        }
        return found[k];
    }

    /** Of a box: least x (0), y (1), greatest x (2), y (3). */
    public int box(int box, int what) throws IndexOutOfBoundsException {
        Box there = requireBox(box);
        requireBound(what);
        return there.bound(what);
    }

    /** Boxes that are there (0), numbers in the result (1), NONE for another what. */
    public int count(int what) {
        switch (what) {
            case 0:
                return boxes.size();
            case 1:
                return foundCount;
            default:
                return NONE;
        }
    }

    private static void requireNumber(int number) {
        if (number < 0 || number >= NUMBERS) {
            throw new IndexOutOfBoundsException("no such number of a box");
        }
    }

    private static void requireBounds(int lowX, int lowY, int highX, int highY) {
        requirePlace(lowX, lowY);
        requirePlace(highX, highY);
        if (highX < lowX || highY < lowY) {
            throw new IllegalArgumentException("a greatest bound is below its least");
        }
    }

    private static void requirePlace(int x, int y) {
        if (x < -FARTHEST || x > FARTHEST || y < -FARTHEST || y > FARTHEST) {
            throw new IllegalArgumentException("not from -1000000000 to 1000000000");
        }
    }

    private static void requireBound(int what) {
        if (what < LEAST_X || what > GREATEST_Y) {
            throw new IndexOutOfBoundsException("what is none of 0 .. 3");
        }
    }

    private Box requireBox(int number) {
        int at = indexFor(number);
        if (!isAt(at, number)) {
            throw new IndexOutOfBoundsException("the box is not there");
        }
        return boxes.get(at);
    }

    /** Where the box of this number stands in the list, or would have to stand. */
    private int indexFor(int number) {
        int from = 0;
        int to = boxes.size();
        while (from < to) {
            int middle = (from + to) >>> 1;
            if (boxes.get(middle).number < number) {
                from = middle + 1;
            } else {
                to = middle;
            }
        }
        return from;
    }

    private boolean isAt(int at, int number) {
        return at >= 0 && at < boxes.size() && boxes.get(at).number == number;
    }

    private static boolean isLeast(int what) {
        return what == LEAST_X || what == LEAST_Y;
    }

    private static boolean fits(int what, Box candidate, Box window) {
        switch (what) {
            case MEETING:
                return candidate.meets(window);
            case LYING_IN:
                return candidate.liesIn(window);
            default:
                return window.liesIn(candidate);
        }
    }

    private void append(int number) {
        makeRoom(foundCount + 1);
        if (foundCount < found.length) {
            found[foundCount] = number;
            foundCount++;
        }
    }

    /** The row grows by doubling, so that a drawer that finds little stays small. */
    private void makeRoom(int needed) {
        if (needed > found.length && found.length < LONGEST_RESULT) {
            int room = Math.max(needed, 2 * found.length);
            found = Arrays.copyOf(found, Math.min(room, LONGEST_RESULT));
        }
    }

    private void makeRoomForDistances() {
        if (foundDistances.length < found.length) {
            foundDistances = new long[found.length];
        }
    }

    /**
     * Behind all that are as near: boxes come by rising number, so the lowest of equally near
     * ones stays first. Of a full row the farthest falls out.
     */
    private void insertByDistance(int number, long distance, int most) {
        int at = indexBehind(distance);
        if (at >= most || most > found.length || most > foundDistances.length) {
            return;
        }
        int kept = Math.min(foundCount, most - 1);
        System.arraycopy(found, at, found, at + 1, kept - at);
        System.arraycopy(foundDistances, at, foundDistances, at + 1, kept - at);
        found[at] = number;
        foundDistances[at] = distance;
        foundCount = kept + 1;
    }

    private int indexBehind(long distance) {
        int from = 0;
        int to = Math.min(foundCount, foundDistances.length);
        while (from < to) {
            int middle = (from + to) >>> 1;
            if (foundDistances[middle] <= distance) {
                from = middle + 1;
            } else {
                to = middle;
            }
        }
        return from;
    }

    private static final class Box {
        private final int number;
        private final int lowX;
        private final int lowY;
        private final int highX;
        private final int highY;

        private Box(int number, int lowX, int lowY, int highX, int highY) {
            this.number = number;
            this.lowX = lowX;
            this.lowY = lowY;
            this.highX = highX;
            this.highY = highY;
        }

        private boolean meets(Box other) {
            return lowX <= other.highX && other.lowX <= highX
                    && lowY <= other.highY && other.lowY <= highY;
        }

        private boolean liesIn(Box other) {
            return other.lowX <= lowX && highX <= other.highX
                    && other.lowY <= lowY && highY <= other.highY;
        }

        /** At most 2 * 2000000000 squared, which a long holds. */
        private long distanceFrom(int x, int y) {
            long wayX = wayTo(x, lowX, highX);
            long wayY = wayTo(y, lowY, highY);
            return wayX * wayX + wayY * wayY;
        }

        private static long wayTo(int place, int low, int high) {
            if (place < low) {
                return (long) low - place;
            }
            return place > high ? (long) place - high : 0L;
        }

        private int bound(int what) {
            switch (what) {
                case LEAST_X:
                    return lowX;
                case LEAST_Y:
                    return lowY;
                case GREATEST_X:
                    return highX;
                default:
                    return highY;
            }
        }
    }
}
