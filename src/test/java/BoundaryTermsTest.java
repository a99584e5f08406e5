/**
 * One test for each sentence of the document's sections 'What it is' and 'Terms' that names a
 * boundary case. The sentence stands above its test; no object is asked more than 512 calls.
 */
public final class BoundaryTermsTest {
    private static final int FAR = 1000000000;
    private static final Class<?> NO_INDEX = IndexOutOfBoundsException.class;
    private static final Class<?> NO_ARGUMENT = IllegalArgumentException.class;
    private static final Class<?> NO_STATE = IllegalStateException.class;
    private static final int[] TOO_SMALL = {-1, -2, Integer.MIN_VALUE};
    private static final int[] TOO_LARGE = {4096, 4097, 65536, Integer.MAX_VALUE};
    private static final int[] TOO_FAR =
            {-FAR - 1, FAR + 1, Integer.MIN_VALUE, Integer.MAX_VALUE};

    public static void main(String[] args) {
        theLast512thCallAnswers();
        the512thCallMayBeResult();
        numbersAtTheirEnds();
        numbersTooSmall();
        numbersTooLarge();
        coordinatesAtTheirEnds();
        coordinatesTooFar();
        greatestMayBeLeast();
        greatestBelowLeast();
        greatestFarBelowLeastDoesNotWrap();
        placesOnTheBounds();
        placesOneOffTheBounds();
        meetingAtSidesAndCorners();
        notMeetingByOne();
        meetingWithoutACornerInTheOther();
        lyingInOnItsBounds();
        notLyingInByOne();
        distanceZeroInside();
        distanceOneOff();
        distanceDoesNotWrap();
        resultNoneAtFirst();
        findingCallsMakeTheResultAnew();
        otherCallsLeaveTheResult();
        refusedCallsLeaveTheResult();
        firstToldExceptionOfPut();
        firstToldExceptionOfDistance();
        firstToldExceptionOfBounds();
        noneIsMinusOne();
        Check.end();
    }

    /** "An object is used for at most 512 calls after it has been made." */
    private static void theLast512thCallAnswers() {
        Check.same("512th put", after511Puts().put(4095, 0, 0, 0, 0), false);
        Check.same("512th put anew", after511Puts().put(510, 0, 0, 0, 0), true);
        Check.same("512th take", after511Puts().take(510), true);
        Check.same("512th clear", after511Puts().clear(), 511);
        Check.same("512th find", after511Puts().find(0, 0, 0, FAR, 0), 511);
        Check.same("512th nearest", after511Puts().nearest(0, 0, 4096), 511);
        Check.same("512th pairs", after511Puts().pairs(), 511 * 510 / 2);
        Check.same("512th distance", after511Puts().distance(510, 512, 2), 8);
        Check.same("512th bounds", after511Puts().bounds(2), 510);
        Check.same("512th box", after511Puts().box(510, 2), 510);
        Check.same("512th count", after511Puts().count(0), 511);
        Check.throwing("512th result", NO_INDEX, () -> after511Puts().result(0));
    }

    private static BoxDrawer after511Puts() {
        BoxDrawer d = new BoxDrawer();
        for (int box = 0; box < 511; box++) {
            d.put(box, 0, 0, box, 0);
        }
        return d;
    }

    /** "An object is used for at most 512 calls after it has been made." */
    private static void the512thCallMayBeResult() {
        BoxDrawer d = new BoxDrawer();
        for (int box = 0; box < 510; box++) {
            d.put(box, -box, 0, -box, 0);
        }
        d.nearest(-FAR, 0, 510);
        Check.same("512th result", d.result(509), 0);
    }

    /** "BOXES have numbers 0 .. 4095" */
    private static void numbersAtTheirEnds() {
        for (int box : new int[] {0, 4095}) {
            BoxDrawer d = new BoxDrawer();
            Check.same("put " + box, d.put(box, 1, 2, 3, 4), false);
            Check.same("put again " + box, d.put(box, 1, 2, 3, 5), true);
            Check.box("put again " + box, d, box, 1, 2, 3, 5);
            Check.same("distance " + box, d.distance(box, 1, 1), 1);
            Check.same("take " + box, d.take(box), true);
            Check.same("take again " + box, d.take(box), false);
        }
    }

    /** "BOXES have numbers 0 .. 4095" */
    private static void numbersTooSmall() {
        for (int no : TOO_SMALL) {
            noSuchNumber(no);
        }
    }

    /** "BOXES have numbers 0 .. 4095" */
    private static void numbersTooLarge() {
        for (int no : TOO_LARGE) {
            noSuchNumber(no);
        }
    }

    private static void noSuchNumber(int no) {
        int[] boxes = {0, 4095};
        BoxDrawer d = new BoxDrawer();
        d.put(0, 0, 0, 1, 1);
        d.put(4095, 0, 0, 1, 1);
        d.pairs();
        Check.refused("put " + no, NO_INDEX, d, boxes, () -> d.put(no, 0, 0, 9, 9));
        Check.refused("take " + no, NO_INDEX, d, boxes, () -> d.take(no));
        Check.refused("distance " + no, NO_INDEX, d, boxes, () -> d.distance(no, 0, 0));
        Check.refused("box " + no, NO_INDEX, d, boxes, () -> d.box(no, 0));
    }

    /** "from -1000000000 to 1000000000" */
    private static void coordinatesAtTheirEnds() {
        BoxDrawer d = new BoxDrawer();
        Check.same("all", d.put(1, -FAR, -FAR, FAR, FAR), false);
        Check.same("least corner", d.put(2, -FAR, -FAR, -FAR, -FAR), false);
        Check.same("greatest corner", d.put(3, FAR, FAR, FAR, FAR), false);
        Check.box("all", d, 1, -FAR, -FAR, FAR, FAR);
        Check.box("least corner", d, 2, -FAR, -FAR, -FAR, -FAR);
        Check.box("greatest corner", d, 3, FAR, FAR, FAR, FAR);
        Check.bounds("all", d, -FAR, -FAR, FAR, FAR);
        Check.same("find all", d.find(0, -FAR, -FAR, FAR, FAR), 3);
        Check.same("find least corner", d.find(1, -FAR, -FAR, -FAR, -FAR), 1);
        Check.result("find least corner", d, 2);
        Check.same("find greatest corner", d.find(2, FAR, FAR, FAR, FAR), 2);
        Check.result("find greatest corner", d, 1, 3);
        Check.same("nearest at an end", d.nearest(FAR, -FAR, 1), 1);
        Check.same("nearest at an end", d.nearest(-FAR, FAR, 1), 1);
        Check.same("distance at an end", d.distance(1, FAR, -FAR), 0);
        Check.same("distance at an end", d.distance(1, -FAR, FAR), 0);
    }

    /** "from -1000000000 to 1000000000" */
    private static void coordinatesTooFar() {
        int[] boxes = {1, 2};
        BoxDrawer d = new BoxDrawer();
        d.put(1, -FAR, -FAR, FAR, FAR);
        d.find(0, 0, 0, 0, 0);
        for (int no : TOO_FAR) {
            Check.throwing("put lowX " + no, NO_ARGUMENT, () -> d.put(1, no, 0, FAR, 1));
            Check.throwing("put lowY " + no, NO_ARGUMENT, () -> d.put(1, 0, no, 1, FAR));
            Check.throwing("put highX " + no, NO_ARGUMENT, () -> d.put(2, -FAR, 0, no, 1));
            Check.throwing("put highY " + no, NO_ARGUMENT, () -> d.put(2, 0, -FAR, 1, no));
            Check.throwing("put x " + no, NO_ARGUMENT, () -> d.put(1, no, 0, no, 0));
            Check.throwing("put y " + no, NO_ARGUMENT, () -> d.put(2, 0, no, 0, no));
            Check.refused("put all " + no, NO_ARGUMENT, d, boxes, () -> d.put(1, no, no, no, no));
        }
    }

    /** "the greatest not below the least" */
    private static void greatestMayBeLeast() {
        BoxDrawer d = new BoxDrawer();
        Check.same("a place", d.put(0, 5, 6, 5, 6), false);
        Check.same("upright", d.put(1, 5, 0, 5, 9), false);
        Check.same("level", d.put(2, 0, 6, 9, 6), false);
        Check.box("a place", d, 0, 5, 6, 5, 6);
        Check.box("upright", d, 1, 5, 0, 5, 9);
        Check.box("level", d, 2, 0, 6, 9, 6);
        Check.same("a window that is a place", d.find(0, 5, 6, 5, 6), 3);
        Check.same("a window that is upright", d.find(1, 5, 0, 5, 9), 2);
        Check.same("a window that is level", d.find(1, 0, 6, 9, 6), 2);
    }

    /** "the greatest not below the least" */
    private static void greatestBelowLeast() {
        int[] boxes = {3, 4};
        BoxDrawer d = new BoxDrawer();
        d.put(3, 0, 0, 9, 9);
        d.find(0, 0, 0, 9, 9);
        Check.refused("put x by one", NO_ARGUMENT, d, boxes, () -> d.put(3, 6, 0, 5, 9));
        Check.refused("put y by one", NO_ARGUMENT, d, boxes, () -> d.put(4, 0, 6, 9, 5));
        Check.refused("put both", NO_ARGUMENT, d, boxes, () -> d.put(4, 6, 6, 5, 5));
        Check.refused("find x by one", NO_ARGUMENT, d, boxes, () -> d.find(0, 6, 0, 5, 9));
        Check.refused("find y by one", NO_ARGUMENT, d, boxes, () -> d.find(1, 0, 6, 9, 5));
        Check.refused("find both", NO_ARGUMENT, d, boxes, () -> d.find(2, 6, 6, 5, 5));
    }

    /** "the greatest not below the least": the difference of bounds is 2000000000 at most. */
    private static void greatestFarBelowLeastDoesNotWrap() {
        int[] boxes = {3};
        BoxDrawer d = new BoxDrawer();
        Check.refused("put x", NO_ARGUMENT, d, boxes, () -> d.put(3, FAR, 0, -FAR, 0));
        Check.refused("put y", NO_ARGUMENT, d, boxes, () -> d.put(3, 0, FAR, 0, -FAR));
        Check.refused("find x", NO_ARGUMENT, d, boxes, () -> d.find(0, FAR, 0, -FAR, 0));
        Check.refused("find y", NO_ARGUMENT, d, boxes, () -> d.find(0, 0, FAR, 0, -FAR));
        int most = Integer.MAX_VALUE;
        int least = Integer.MIN_VALUE;
        Check.refused("put all", NO_ARGUMENT, d, boxes, () -> d.put(3, most, 0, least, 0));
        Check.refused("find all", NO_ARGUMENT, d, boxes, () -> d.find(0, 0, most, 0, least));
    }

    /** "A box has all places between these, and on them." */
    private static void placesOnTheBounds() {
        BoxDrawer d = new BoxDrawer();
        d.put(7, -3, 2, 4, 6);
        for (int x = -3; x <= 4; x++) {
            for (int y = 2; y <= 6; y++) {
                Check.same("distance of " + x + ", " + y, d.distance(7, x, y), 0);
                Check.same("find 0 of " + x + ", " + y, d.find(0, x, y, x, y), 1);
                Check.same("find 2 of " + x + ", " + y, d.find(2, x, y, x, y), 1);
            }
        }
    }

    /** "A box has all places between these, and on them." */
    private static void placesOneOffTheBounds() {
        BoxDrawer d = new BoxDrawer();
        d.put(7, -3, 2, 4, 6);
        int[][] off = {{-4, 2}, {-4, 6}, {5, 2}, {5, 6}, {-3, 1}, {4, 1}, {-3, 7}, {4, 7}};
        for (int[] place : off) {
            int x = place[0];
            int y = place[1];
            Check.same("distance of " + x + ", " + y, d.distance(7, x, y), 1);
            Check.same("find 0 of " + x + ", " + y, d.find(0, x, y, x, y), 0);
            Check.same("find 2 of " + x + ", " + y, d.find(2, x, y, x, y), 0);
        }
    }

    /** "Two MEET, if there is a place in both" */
    private static void meetingAtSidesAndCorners() {
        int[][] others = {{-9, 0, 0, 10}, {10, 0, 20, 10}, {0, -9, 10, 0}, {0, 10, 10, 20},
            {-9, -9, 0, 0}, {10, 10, 20, 20}, {-9, 10, 0, 20}, {10, -9, 20, 0},
            {0, 0, 0, 0}, {10, 10, 10, 10}, {0, 10, 0, 10}, {10, 0, 10, 0},
            {0, 0, 10, 10}, {5, 5, 5, 5}, {-1, -1, 11, 11}};
        for (int[] other : others) {
            meeting(other, true);
        }
    }

    /** "Two MEET, if there is a place in both" */
    private static void notMeetingByOne() {
        int[][] others = {{-9, 0, -1, 10}, {11, 0, 20, 10}, {0, -9, 10, -1}, {0, 11, 10, 20},
            {-9, -9, -1, 0}, {-9, -9, 0, -1}, {11, 10, 20, 20}, {10, 11, 20, 20},
            {-1, -1, -1, -1}, {11, 11, 11, 11}, {-FAR, -FAR, -FAR, FAR}, {FAR, -FAR, FAR, FAR}};
        for (int[] other : others) {
            meeting(other, false);
        }
    }

    /** "Two MEET, if there is a place in both": bars across one another. */
    private static void meetingWithoutACornerInTheOther() {
        meeting(new int[] {-5, 4, 15, 6}, true);
        meeting(new int[] {4, -5, 6, 15}, true);
        meeting(new int[] {-FAR, 10, FAR, 10}, true);
        meeting(new int[] {0, -FAR, 0, FAR}, true);
    }

    /** Whether the box 0, 0, 10, 10 and another meet: by find from both sides, and by pairs. */
    private static void meeting(int[] other, boolean due) {
        String both = "0 0 10 10 and " + java.util.Arrays.toString(other);
        BoxDrawer d = new BoxDrawer();
        d.put(1, 0, 0, 10, 10);
        Check.same("find 0, " + both, d.find(0, other[0], other[1], other[2], other[3]),
                due ? 1 : 0);
        d.put(2, other[0], other[1], other[2], other[3]);
        Check.same("pairs, " + both, d.pairs(), due ? 1 : 0);
        d.take(1);
        Check.same("find 0 turned, " + both, d.find(0, 0, 0, 10, 10), due ? 1 : 0);
        d.put(3, 0, 0, 10, 10);
        Check.same("pairs turned, " + both, d.pairs(), due ? 1 : 0);
    }

    /** "one LIES IN another, if all its places are in that" */
    private static void lyingInOnItsBounds() {
        lying(new int[] {0, 0, 10, 10}, true);
        lying(new int[] {0, 5, 0, 5}, true);
        lying(new int[] {10, 5, 10, 5}, true);
        lying(new int[] {5, 0, 5, 0}, true);
        lying(new int[] {5, 10, 5, 10}, true);
        lying(new int[] {0, 0, 0, 10}, true);
        lying(new int[] {0, 10, 10, 10}, true);
    }

    /** "one LIES IN another, if all its places are in that" */
    private static void notLyingInByOne() {
        lying(new int[] {-1, 0, 10, 10}, false);
        lying(new int[] {0, -1, 10, 10}, false);
        lying(new int[] {0, 0, 11, 10}, false);
        lying(new int[] {0, 0, 10, 11}, false);
        lying(new int[] {-1, 5, -1, 5}, false);
        lying(new int[] {5, 11, 5, 11}, false);
        lying(new int[] {-1, -1, 11, 11}, false);
    }

    /** Whether one lies in 0, 0, 10, 10: by find 1, and with window and box turned by find 2. */
    private static void lying(int[] inner, boolean due) {
        String text = java.util.Arrays.toString(inner) + " in 0 0 10 10";
        BoxDrawer d = new BoxDrawer();
        d.put(1, inner[0], inner[1], inner[2], inner[3]);
        Check.same("find 1, " + text, d.find(1, 0, 0, 10, 10), due ? 1 : 0);
        BoxDrawer turned = new BoxDrawer();
        turned.put(1, 0, 0, 10, 10);
        Check.same("find 2, " + text,
                turned.find(2, inner[0], inner[1], inner[2], inner[3]), due ? 1 : 0);
    }

    /** "THE DISTANCE of a place from a box is 0 if it is in it" */
    private static void distanceZeroInside() {
        BoxDrawer d = new BoxDrawer();
        d.put(0, -FAR, -FAR, FAR, FAR);
        d.put(1, 8, 9, 8, 9);
        Check.same("in the middle", d.distance(0, 0, 0), 0);
        Check.same("least corner", d.distance(0, -FAR, -FAR), 0);
        Check.same("greatest corner", d.distance(0, FAR, FAR), 0);
        Check.same("a box of one place", d.distance(1, 8, 9), 0);
    }

    /** "else the square of the way to the nearest place that is" */
    private static void distanceOneOff() {
        BoxDrawer d = new BoxDrawer();
        d.put(1, 0, 0, 10, 20);
        Check.same("left", d.distance(1, -1, 20), 1);
        Check.same("right", d.distance(1, 11, 0), 1);
        Check.same("below", d.distance(1, 10, -1), 1);
        Check.same("above", d.distance(1, 0, 21), 1);
        Check.same("low corner", d.distance(1, -1, -1), 2);
        Check.same("high corner", d.distance(1, 11, 21), 2);
        Check.same("left and above", d.distance(1, -1, 21), 2);
        Check.same("right and below", d.distance(1, 11, -1), 2);
        Check.same("two right, three above", d.distance(1, 12, 23), 13);
    }

    /** "else the square of the way": beyond what an int holds, up to 8000000000000000000. */
    private static void distanceDoesNotWrap() {
        BoxDrawer d = new BoxDrawer();
        d.put(1, -FAR, -FAR, -FAR, -FAR);
        d.put(2, FAR, FAR, FAR, FAR);
        d.put(3, 0, 0, 0, 0);
        Check.same("farthest up", d.distance(1, FAR, FAR), 8000000000000000000L);
        Check.same("farthest down", d.distance(2, -FAR, -FAR), 8000000000000000000L);
        Check.same("x alone", d.distance(1, FAR, -FAR), 4000000000000000000L);
        Check.same("y alone", d.distance(1, -FAR, FAR), 4000000000000000000L);
        Check.same("last int square", d.distance(3, 46340, 0), 2147395600L);
        Check.same("first beyond", d.distance(3, 46341, 0), 2147488281L);
        Check.same("first beyond 32 bits", d.distance(3, 0, -65536), 4294967296L);
        Check.same("nearest of far ones", d.nearest(FAR - 1, FAR, 3), 3);
        Check.result("nearest of far ones", d, 2, 3, 1);
        d.put(4, -46341, 0, -46341, 0);
        Check.same("nearest, beyond an int", d.nearest(0, -46340, 4), 4);
        Check.result("nearest, beyond an int", d, 3, 4, 1, 2);
    }

    /** "THE RESULT is a row of numbers (none at first)" */
    private static void resultNoneAtFirst() {
        BoxDrawer d = new BoxDrawer();
        Check.same("count(1)", d.count(1), 0);
        Check.throwing("result(0)", NO_INDEX, () -> d.result(0));
        d.put(1, 0, 0, 1, 1);
        Check.same("count(1) after put", d.count(1), 0);
        Check.throwing("result(0) after put", NO_INDEX, () -> d.result(0));
    }

    /** "calls that find boxes make it anew": also when they find fewer, or none. */
    private static void findingCallsMakeTheResultAnew() {
        BoxDrawer d = new BoxDrawer();
        d.put(1, 0, 0, 5, 5);
        d.put(2, 5, 5, 9, 9);
        d.put(3, 50, 50, 51, 51);
        d.find(0, 0, 0, 90, 90);
        Check.result("find", d, 1, 2, 3);
        d.nearest(49, 50, 1);
        Check.result("nearest after find", d, 3);
        d.pairs();
        Check.result("pairs after nearest", d, 1, 2);
        d.find(1, 0, 0, 0, 0);
        Check.result("find of none after pairs", d);
        d.nearest(0, 0, 4096);
        Check.result("nearest after none", d, 1, 2, 3);
        d.take(1);
        d.pairs();
        Check.result("pairs of none after nearest", d);
        d.find(2, 50, 50, 50, 50);
        Check.result("find after none", d, 3);
        d.clear();
        d.nearest(0, 0, 1);
        Check.result("nearest of none after find", d);
    }

    /** "all others leave it" */
    private static void otherCallsLeaveTheResult() {
        BoxDrawer d = new BoxDrawer();
        d.put(5, 0, 0, 5, 5);
        d.put(2, 5, 5, 9, 9);
        d.pairs();
        d.put(1, 0, 0, 9, 9);
        Check.result("put", d, 2, 5);
        d.put(5, 70, 70, 70, 70);
        Check.result("put in the stead", d, 2, 5);
        d.take(2);
        Check.result("take", d, 2, 5);
        d.take(2);
        Check.result("take of none", d, 2, 5);
        d.distance(1, 20, 20);
        Check.result("distance", d, 2, 5);
        d.bounds(3);
        Check.result("bounds", d, 2, 5);
        d.box(1, 3);
        Check.result("box", d, 2, 5);
        d.count(0);
        d.count(2);
        Check.result("count", d, 2, 5);
        d.clear();
        Check.result("clear", d, 2, 5);
        d.clear();
        Check.result("clear of none", d, 2, 5);
    }

    /** "all others leave it": a call that is refused finds no boxes. */
    private static void refusedCallsLeaveTheResult() {
        int[] boxes = {2, 3, 5};
        BoxDrawer d = new BoxDrawer();
        d.put(5, 0, 0, 5, 5);
        d.put(2, 5, 5, 9, 9);
        d.pairs();
        Check.refused("put", NO_INDEX, d, boxes, () -> d.put(4096, 0, 0, 1, 1));
        Check.refused("put", NO_ARGUMENT, d, boxes, () -> d.put(5, 0, 1, 1, 0));
        Check.refused("take", NO_INDEX, d, boxes, () -> d.take(-1));
        Check.refused("find", NO_ARGUMENT, d, boxes, () -> d.find(3, 0, 0, 1, 1));
        Check.refused("find", NO_ARGUMENT, d, boxes, () -> d.find(0, 0, 0, -1, 1));
        Check.refused("nearest", NO_ARGUMENT, d, boxes, () -> d.nearest(0, 0, 0));
        Check.refused("nearest", NO_ARGUMENT, d, boxes, () -> d.nearest(0, FAR + 1, 1));
        Check.refused("distance", NO_INDEX, d, boxes, () -> d.distance(3, 0, 0));
        Check.refused("distance", NO_ARGUMENT, d, boxes, () -> d.distance(5, 0, -FAR - 1));
        Check.refused("bounds", NO_INDEX, d, boxes, () -> d.bounds(4));
        Check.refused("result", NO_INDEX, d, boxes, () -> d.result(2));
        Check.refused("box", NO_INDEX, d, boxes, () -> d.box(3, 0));
        d.clear();
        Check.refused("bounds of none", NO_STATE, d, boxes, () -> d.bounds(0));
        Check.result("at last", d, 2, 5);
    }

    /** "Of several exceptions the first one told is thrown." */
    private static void firstToldExceptionOfPut() {
        BoxDrawer d = new BoxDrawer();
        Check.throwing("no number, turned bounds", NO_INDEX, () -> d.put(-1, 1, 1, 0, 0));
        Check.throwing("no number, far bounds", NO_INDEX, () -> d.put(4096, 0, 0, FAR + 1, 0));
        Check.throwing("a number, turned bounds", NO_ARGUMENT, () -> d.put(4095, 1, 1, 0, 0));
    }

    /** "Of several exceptions the first one told is thrown." */
    private static void firstToldExceptionOfDistance() {
        BoxDrawer d = new BoxDrawer();
        d.put(1, 0, 0, 0, 0);
        Check.throwing("no number, x", NO_INDEX, () -> d.distance(-1, FAR + 1, 0));
        Check.throwing("no number, y", NO_INDEX, () -> d.distance(4096, 0, -FAR - 1));
        Check.throwing("not there, x and y", NO_INDEX, () -> d.distance(2, FAR + 1, FAR + 1));
        Check.throwing("there, x and y", NO_ARGUMENT, () -> d.distance(1, FAR + 1, FAR + 1));
    }

    /** "Of several exceptions the first one told is thrown." */
    private static void firstToldExceptionOfBounds() {
        BoxDrawer d = new BoxDrawer();
        Check.throwing("what 4, no boxes", NO_INDEX, () -> d.bounds(4));
        Check.throwing("what -1, no boxes", NO_INDEX, () -> d.bounds(-1));
        Check.throwing("what 3, no boxes", NO_STATE, () -> d.bounds(3));
    }

    /** "NONE = -1: Nothing there." */
    private static void noneIsMinusOne() {
        Check.same("NONE", BoxDrawer.NONE, -1);
    }
}
