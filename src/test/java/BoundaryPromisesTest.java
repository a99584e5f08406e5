/**
 * One test for each sentence of the document's promises that names a boundary case. The sentence
 * stands above its test; no object is asked more than 512 calls.
 */
public final class BoundaryPromisesTest {
    private static final int FAR = 1000000000;
    private static final Class<?> NO_INDEX = IndexOutOfBoundsException.class;
    private static final Class<?> NO_ARGUMENT = IllegalArgumentException.class;
    private static final Class<?> NO_STATE = IllegalStateException.class;
    private static final int[] NO_NUMBERS = {-1, 4096, Integer.MIN_VALUE, Integer.MAX_VALUE};
    private static final int[] TOO_FAR =
            {-FAR - 1, FAR + 1, Integer.MIN_VALUE, Integer.MAX_VALUE};

    public static void main(String[] args) {
        promise1NoBoxes();
        promise1OwnBoxes();
        promise2InTheStead();
        promise2WhetherOneWas();
        promise2NoSuchNumber();
        promise2BoundsNotSo();
        promise3WhetherItWas();
        promise3LastAndFirst();
        promise3NoSuchNumber();
        promise4HowMany();
        promise4FilledAgain();
        promise5LowestFirst();
        promise5OfNoBoxes();
        promise5AllOfMany();
        promise5BoundsNotSo();
        promise5AnotherWhat();
        promise6FirstAndLastN();
        promise6AllIfFewer();
        promise6EquallyNear();
        promise6EquallyNearAtTheCut();
        promise6NoSuchN();
        promise6PlaceAtTheEnds();
        promise6PlaceTooFar();
        promise7OfNoneAndOne();
        promise7OrderOfPairs();
        promise7JustBelowTheMost();
        promise7TheMost();
        promise7JustAboveTheMost();
        promise7FarAboveTheMost();
        promise7FewAgain();
        promise8NotThere();
        promise8PlaceAtTheEnds();
        promise8PlaceTooFar();
        promise9OfOneBox();
        promise9Shrinking();
        promise9AnotherWhat();
        promise9WhenNone();
        promise10FirstAndLast();
        promise10WhenNone();
        promise10OfPairs();
        promise11NotThere();
        promise11AnotherWhat();
        promise12OfNone();
        promise12OfTheMost();
        promise12AnotherWhat();
        Check.end();
    }

    /** "BoxDrawer(): No boxes." */
    private static void promise1NoBoxes() {
        BoxDrawer d = new BoxDrawer();
        Check.same("1: count(0)", d.count(0), 0);
        Check.same("1: find", d.find(0, -FAR, -FAR, FAR, FAR), 0);
        Check.same("1: nearest", d.nearest(0, 0, 4096), 0);
        Check.same("1: pairs", d.pairs(), 0);
        Check.same("1: clear", d.clear(), 0);
        for (int box : new int[] {0, 1, 2048, 4095}) {
            Check.same("1: take " + box, d.take(box), false);
            Check.throwing("1: box " + box, NO_INDEX, () -> d.box(box, 0));
            Check.throwing("1: distance " + box, NO_INDEX, () -> d.distance(box, 0, 0));
        }
        Check.throwing("1: bounds", NO_STATE, () -> d.bounds(0));
    }

    /** "BoxDrawer(): No boxes.": also when another object has some. */
    private static void promise1OwnBoxes() {
        BoxDrawer first = new BoxDrawer();
        first.put(1, 0, 0, 1, 1);
        first.find(0, 0, 0, 1, 1);
        BoxDrawer second = new BoxDrawer();
        Check.same("1: the second's boxes", second.count(0), 0);
        Check.same("1: the second's result", second.count(1), 0);
        Check.same("1: the first's boxes", first.count(0), 1);
        Check.same("1: the first's result", first.count(1), 1);
    }

    /** "The box of a number is there, with these bounds (in the stead of one that is there)" */
    private static void promise2InTheStead() {
        BoxDrawer d = new BoxDrawer();
        d.put(0, 0, 0, 1, 1);
        d.put(9, 0, 0, 1, 1);
        d.put(4095, 0, 0, 1, 1);
        for (int box : new int[] {9, 0, 4095}) {
            d.put(box, 20, 30, 40, 50);
            Check.box("2: box " + box, d, box, 20, 30, 40, 50);
            Check.same("2: count(0)", d.count(0), 3);
        }
        Check.same("2: none where they were", d.find(0, 0, 0, 1, 1), 0);
        Check.same("2: pairs", d.pairs(), 3);
        Check.bounds("2: all", d, 20, 30, 40, 50);
    }

    /** "whether one was" */
    private static void promise2WhetherOneWas() {
        BoxDrawer d = new BoxDrawer();
        Check.same("2: first", d.put(7, 0, 0, 1, 1), false);
        Check.same("2: the same again", d.put(7, 0, 0, 1, 1), true);
        Check.same("2: others beside it", d.put(6, 0, 0, 1, 1), false);
        Check.same("2: others beside it", d.put(8, 0, 0, 1, 1), false);
        d.take(7);
        Check.same("2: after take", d.put(7, 0, 0, 1, 1), false);
        d.clear();
        Check.same("2: after clear", d.put(7, 0, 0, 1, 1), false);
        Check.throwing("2: refused", NO_ARGUMENT, () -> d.put(5, 1, 1, 0, 0));
        Check.same("2: after a refused one", d.put(5, 0, 0, 1, 1), false);
    }

    /** "IndexOutOfBoundsException, when there is no such number" */
    private static void promise2NoSuchNumber() {
        int[] boxes = {0, 4095};
        BoxDrawer d = new BoxDrawer();
        d.put(0, 1, 2, 3, 4);
        d.put(4095, 5, 6, 7, 8);
        for (int no : NO_NUMBERS) {
            Check.refused("2: put " + no, NO_INDEX, d, boxes, () -> d.put(no, 0, 0, 1, 1));
        }
    }

    /** "IllegalArgumentException, when the bounds are not so" */
    private static void promise2BoundsNotSo() {
        int[] boxes = {4, 5};
        BoxDrawer d = new BoxDrawer();
        d.put(5, 1, 2, 3, 4);
        Check.refused("2: x", NO_ARGUMENT, d, boxes, () -> d.put(5, 1, 0, 0, 0));
        Check.refused("2: y", NO_ARGUMENT, d, boxes, () -> d.put(5, 0, 1, 0, 0));
        Check.refused("2: new x", NO_ARGUMENT, d, boxes, () -> d.put(4, 1, 0, 0, 0));
        Check.refused("2: new y", NO_ARGUMENT, d, boxes, () -> d.put(4, 0, 1, 0, 0));
        Check.refused("2: lowX", NO_ARGUMENT, d, boxes, () -> d.put(4, -FAR - 1, 0, 0, 0));
        Check.refused("2: lowY", NO_ARGUMENT, d, boxes, () -> d.put(4, 0, -FAR - 1, 0, 0));
        Check.refused("2: highX", NO_ARGUMENT, d, boxes, () -> d.put(4, 0, 0, FAR + 1, 0));
        Check.refused("2: highY", NO_ARGUMENT, d, boxes, () -> d.put(4, 0, 0, 0, FAR + 1));
    }

    /** "It is there no more: whether it was." */
    private static void promise3WhetherItWas() {
        BoxDrawer d = new BoxDrawer();
        Check.same("3: of none", d.take(5), false);
        d.put(5, 0, 0, 1, 1);
        Check.same("3: below it", d.take(4), false);
        Check.same("3: above it", d.take(6), false);
        Check.same("3: it", d.take(5), true);
        Check.same("3: it again", d.take(5), false);
        Check.same("3: count(0)", d.count(0), 0);
        Check.throwing("3: box", NO_INDEX, () -> d.box(5, 0));
        Check.throwing("3: bounds", NO_STATE, () -> d.bounds(0));
        Check.same("3: find", d.find(0, 0, 0, 1, 1), 0);
    }

    /** "It is there no more": the others stay, whichever end it stood at. */
    private static void promise3LastAndFirst() {
        BoxDrawer d = new BoxDrawer();
        for (int box : new int[] {4095, 0, 17, 16, 4094}) {
            d.put(box, box, box, box, box);
        }
        Check.same("3: take 0", d.take(0), true);
        Check.same("3: take 4095", d.take(4095), true);
        Check.same("3: take 17", d.take(17), true);
        Check.same("3: find", d.find(1, -FAR, -FAR, FAR, FAR), 2);
        Check.result("3: find", d, 16, 4094);
        Check.box("3: box 16", d, 16, 16, 16, 16, 16);
        Check.box("3: box 4094", d, 4094, 4094, 4094, 4094, 4094);
    }

    /** "IndexOutOfBoundsException, when there is no such number." */
    private static void promise3NoSuchNumber() {
        int[] boxes = {0, 4095};
        BoxDrawer d = new BoxDrawer();
        for (int no : NO_NUMBERS) {
            Check.refused("3: take " + no + " of none", NO_INDEX, d, boxes, () -> d.take(no));
        }
        d.put(0, 1, 2, 3, 4);
        d.put(4095, 5, 6, 7, 8);
        for (int no : NO_NUMBERS) {
            Check.refused("3: take " + no, NO_INDEX, d, boxes, () -> d.take(no));
        }
    }

    /** "No boxes: how many there were." */
    private static void promise4HowMany() {
        BoxDrawer d = new BoxDrawer();
        Check.same("4: of none", d.clear(), 0);
        d.put(4095, 0, 0, 1, 1);
        Check.same("4: of one", d.clear(), 1);
        Check.same("4: of none again", d.clear(), 0);
        for (int box = 0; box < 300; box++) {
            d.put(box, 0, 0, 1, 1);
        }
        d.put(0, 0, 0, 2, 2);
        d.take(1);
        Check.same("4: of 299", d.clear(), 299);
        Check.same("4: count(0)", d.count(0), 0);
    }

    /** "No boxes": what was there does not come back with new ones. */
    private static void promise4FilledAgain() {
        BoxDrawer d = new BoxDrawer();
        d.put(1, -9, -9, 9, 9);
        d.put(2, -9, -9, 9, 9);
        d.clear();
        Check.throwing("4: box", NO_INDEX, () -> d.box(1, 0));
        Check.throwing("4: distance", NO_INDEX, () -> d.distance(1, 0, 0));
        Check.throwing("4: bounds", NO_STATE, () -> d.bounds(0));
        Check.same("4: take", d.take(1), false);
        d.put(2, 3, 4, 5, 6);
        Check.bounds("4: bounds", d, 3, 4, 5, 6);
        Check.same("4: pairs", d.pairs(), 0);
        Check.same("4: nearest", d.nearest(0, 0, 2), 1);
        Check.result("4: nearest", d, 2);
    }

    /** "the lowest first" */
    private static void promise5LowestFirst() {
        BoxDrawer d = new BoxDrawer();
        for (int box : new int[] {4095, 16, 0, 2048, 15, 17, 1}) {
            d.put(box, 0, 0, 9, 9);
        }
        for (int what = 0; what <= 2; what++) {
            Check.same("5: find " + what, d.find(what, 0, 0, 9, 9), 7);
            Check.result("5: find " + what, d, 0, 1, 15, 16, 17, 2048, 4095);
        }
    }

    /** "The numbers of all boxes": of none, none. */
    private static void promise5OfNoBoxes() {
        BoxDrawer d = new BoxDrawer();
        for (int what = 0; what <= 2; what++) {
            Check.same("5: find " + what, d.find(what, -FAR, -FAR, FAR, FAR), 0);
            Check.result("5: find " + what, d);
        }
    }

    /** "The numbers of all boxes": each size about which a row may have to grow. */
    private static void promise5AllOfMany() {
        for (int size : new int[] {1, 2, 15, 16, 17, 31, 32, 33, 64, 65, 128, 129, 240}) {
            BoxDrawer d = new BoxDrawer();
            int[] want = new int[size];
            for (int box = size - 1; box >= 0; box--) {
                d.put(3 * box, box, 0, box, 0);
                want[box] = 3 * box;
            }
            Check.same("5: find of " + size, d.find(0, 0, 0, size, 0), size);
            Check.result("5: find of " + size, d, want);
        }
    }

    /** "IllegalArgumentException, when the bounds are not so" */
    private static void promise5BoundsNotSo() {
        int[] boxes = {1};
        for (int what = 0; what <= 2; what++) {
            int w = what;
            BoxDrawer d = new BoxDrawer();
            d.put(1, 0, 0, 0, 0);
            d.find(0, 0, 0, 0, 0);
            Check.refused("5: x " + w, NO_ARGUMENT, d, boxes, () -> d.find(w, 1, 0, 0, 0));
            Check.refused("5: y " + w, NO_ARGUMENT, d, boxes, () -> d.find(w, 0, 1, 0, 0));
            for (int no : TOO_FAR) {
                String name = " " + no + " in find " + w;
                Check.refused("5: lowX" + name, NO_ARGUMENT, d, boxes,
                        () -> d.find(w, no, 0, FAR, 0));
                Check.refused("5: lowY" + name, NO_ARGUMENT, d, boxes,
                        () -> d.find(w, 0, no, 0, FAR));
                Check.refused("5: highX" + name, NO_ARGUMENT, d, boxes,
                        () -> d.find(w, -FAR, 0, no, 0));
                Check.refused("5: highY" + name, NO_ARGUMENT, d, boxes,
                        () -> d.find(w, 0, -FAR, 0, no));
            }
        }
    }

    /** "or for another what" */
    private static void promise5AnotherWhat() {
        int[] boxes = {1};
        BoxDrawer d = new BoxDrawer();
        for (int no : new int[] {-1, 3, 4, Integer.MIN_VALUE, Integer.MAX_VALUE}) {
            Check.refused("5: what " + no + " of none", NO_ARGUMENT, d, boxes,
                    () -> d.find(no, 0, 0, 1, 1));
        }
        d.put(1, 0, 0, 1, 1);
        d.find(0, 0, 0, 0, 0);
        for (int no : new int[] {-1, 3, 4, Integer.MIN_VALUE, Integer.MAX_VALUE}) {
            Check.refused("5: what " + no, NO_ARGUMENT, d, boxes,
                    () -> d.find(no, 0, 0, 1, 1));
            Check.refused("5: what " + no + ", bounds not so", NO_ARGUMENT, d, boxes,
                    () -> d.find(no, 1, 1, 0, 0));
        }
    }

    /** "The n boxes (1 .. 4096 ..)" */
    private static void promise6FirstAndLastN() {
        BoxDrawer d = fiveOnALine();
        Check.same("6: n 1", d.nearest(0, 0, 1), 1);
        Check.result("6: n 1", d, 10);
        Check.same("6: n 2", d.nearest(0, 0, 2), 2);
        Check.result("6: n 2", d, 10, 8);
        Check.same("6: n 4095", d.nearest(0, 0, 4095), 5);
        Check.same("6: n 4096", d.nearest(0, 0, 4096), 5);
        Check.result("6: n 4096", d, 10, 8, 6, 4, 2);
    }

    /** "or all, if there are fewer" */
    private static void promise6AllIfFewer() {
        BoxDrawer d = fiveOnALine();
        Check.same("6: one less", d.nearest(0, 0, 4), 4);
        Check.result("6: one less", d, 10, 8, 6, 4);
        Check.same("6: as many", d.nearest(0, 0, 5), 5);
        Check.result("6: as many", d, 10, 8, 6, 4, 2);
        Check.same("6: one more", d.nearest(0, 0, 6), 5);
        Check.result("6: one more", d, 10, 8, 6, 4, 2);
        d.clear();
        Check.same("6: of none", d.nearest(0, 0, 1), 0);
        Check.result("6: of none", d);
        d.put(3, FAR, FAR, FAR, FAR);
        Check.same("6: of one", d.nearest(-FAR, -FAR, 2), 1);
        Check.result("6: of one", d, 3);
    }

    private static BoxDrawer fiveOnALine() {
        BoxDrawer d = new BoxDrawer();
        d.put(6, 0, 30, 0, 30);
        d.put(10, 0, 10, 0, 10);
        d.put(2, 0, 50, 0, 50);
        d.put(8, 0, 20, 0, 20);
        d.put(4, 0, 40, 0, 40);
        return d;
    }

    /** "of equally near ones the lowest number" */
    private static void promise6EquallyNear() {
        BoxDrawer d = new BoxDrawer();
        d.put(9, 5, 0, 5, 0);
        d.put(4095, 0, 5, 0, 9);
        d.put(3, -3, -4, -3, -4);
        d.put(0, -9, 3, -4, 3);
        d.put(7, 0, 0, 0, 0);
        d.put(8, -1, -1, 1, 1);
        d.put(1, 0, 0, 4, 4);
        Check.same("6: equally near", d.nearest(0, 0, 7), 7);
        Check.result("6: equally near", d, 1, 7, 8, 0, 3, 9, 4095);
        d.put(7, 5, 0, 5, 0);
        Check.same("6: one put anew", d.nearest(0, 0, 4096), 7);
        Check.result("6: one put anew", d, 1, 8, 0, 3, 7, 9, 4095);
    }

    /** "of equally near ones the lowest number": where only some of them are among the n. */
    private static void promise6EquallyNearAtTheCut() {
        BoxDrawer d = new BoxDrawer();
        d.put(30, 0, 7, 0, 7);
        d.put(20, 7, 0, 7, 0);
        d.put(10, 0, -7, 0, -7);
        d.put(40, 0, 1, 0, 1);
        Check.same("6: n 1", d.nearest(0, 0, 1), 1);
        Check.result("6: n 1", d, 40);
        Check.same("6: n 2", d.nearest(0, 0, 2), 2);
        Check.result("6: n 2", d, 40, 10);
        Check.same("6: n 3", d.nearest(0, 0, 3), 3);
        Check.result("6: n 3", d, 40, 10, 20);
        d.take(40);
        Check.same("6: n 1 of equals", d.nearest(0, 0, 1), 1);
        Check.result("6: n 1 of equals", d, 10);
    }

    /** "IllegalArgumentException, when n is none of these" */
    private static void promise6NoSuchN() {
        int[] boxes = {1};
        BoxDrawer d = new BoxDrawer();
        for (int no : new int[] {0, -1, 4097, Integer.MIN_VALUE, Integer.MAX_VALUE}) {
            Check.refused("6: n " + no + " of none", NO_ARGUMENT, d, boxes,
                    () -> d.nearest(0, 0, no));
        }
        d.put(1, 0, 0, 1, 1);
        d.nearest(0, 0, 1);
        for (int no : new int[] {0, -1, 4097, Integer.MIN_VALUE, Integer.MAX_VALUE}) {
            Check.refused("6: n " + no, NO_ARGUMENT, d, boxes, () -> d.nearest(0, 0, no));
        }
    }

    /** "x or y none from -1000000000 to 1000000000" */
    private static void promise6PlaceAtTheEnds() {
        BoxDrawer d = new BoxDrawer();
        d.put(1, FAR, FAR, FAR, FAR);
        d.put(2, -FAR, FAR, -FAR, FAR);
        d.put(3, -FAR, -FAR, -FAR, -FAR);
        d.put(4, FAR, -FAR, FAR, -FAR);
        Check.same("6: right above", d.nearest(FAR, FAR, 4), 4);
        Check.result("6: right above", d, 1, 2, 4, 3);
        Check.same("6: left above", d.nearest(-FAR, FAR, 4), 4);
        Check.result("6: left above", d, 2, 1, 3, 4);
        Check.same("6: left below", d.nearest(-FAR, -FAR, 4), 4);
        Check.result("6: left below", d, 3, 2, 4, 1);
        Check.same("6: right below", d.nearest(FAR, -FAR, 4), 4);
        Check.result("6: right below", d, 4, 1, 3, 2);
    }

    /** "x or y none from -1000000000 to 1000000000" */
    private static void promise6PlaceTooFar() {
        int[] boxes = {1};
        BoxDrawer d = new BoxDrawer();
        d.put(1, 0, 0, 1, 1);
        d.nearest(0, 0, 1);
        for (int no : TOO_FAR) {
            Check.refused("6: x " + no, NO_ARGUMENT, d, boxes, () -> d.nearest(no, 0, 1));
            Check.refused("6: y " + no, NO_ARGUMENT, d, boxes, () -> d.nearest(0, no, 1));
            Check.refused("6: both " + no, NO_ARGUMENT, d, boxes, () -> d.nearest(no, no, 1));
        }
        d.clear();
        Check.throwing("6: x of none", NO_ARGUMENT, () -> d.nearest(FAR + 1, 0, 1));
        Check.throwing("6: y of none", NO_ARGUMENT, () -> d.nearest(0, FAR + 1, 1));
    }

    /** "All pairs of boxes that meet": none where there is no pair. */
    private static void promise7OfNoneAndOne() {
        BoxDrawer d = new BoxDrawer();
        Check.same("7: of no box", d.pairs(), 0);
        Check.result("7: of no box", d);
        d.put(0, 0, 0, 1, 1);
        Check.same("7: a box does not make a pair with itself", d.pairs(), 0);
        Check.result("7: of one box", d);
        d.put(4095, 0, 0, 1, 1);
        Check.same("7: of two", d.pairs(), 1);
        Check.result("7: of two", d, 0, 4095);
        d.put(4095, 2, 0, 3, 1);
        Check.same("7: of two apart", d.pairs(), 0);
        Check.result("7: of two apart", d);
    }

    /**
     * "the lower number first in each, in the order of these, of equal ones in that of the
     * others"
     */
    private static void promise7OrderOfPairs() {
        BoxDrawer d = new BoxDrawer();
        d.put(9, 0, 0, 9, 9);
        d.put(1, 9, 9, 9, 9);
        d.put(5, 0, 0, 9, 0);
        d.put(3, 9, 0, 9, 9);
        Check.same("7: order", d.pairs(), 5);
        Check.result("7: order", d, 1, 3, 1, 9, 3, 5, 3, 9, 5, 9);
    }

    /** "but not more than the first 2048 pairs": one less. */
    private static void promise7JustBelowTheMost() {
        manyPairs(64, 31, 2047, 4094);
    }

    /** "but not more than the first 2048 pairs": as many. */
    private static void promise7TheMost() {
        manyPairs(64, 32, 2048, 4096);
    }

    /** "but not more than the first 2048 pairs": one more. */
    private static void promise7JustAboveTheMost() {
        manyPairs(64, 33, 2049, 4096);
    }

    /** "how many pairs meet in all": also of those that the result has no more. */
    private static void promise7FarAboveTheMost() {
        manyPairs(150, 0, 11175, 4096);
        manyPairs(65, 40, 2120, 4096);
    }

    /** So many boxes that all meet, numbers 0 .., and behind them so many pairs of their own. */
    private static BoxDrawer crowdAndPairs(int crowd, int alone) {
        BoxDrawer d = new BoxDrawer();
        for (int i = 0; i < alone; i++) {
            d.put(1000 + i, 100 + 10 * i, 0, 105 + 10 * i, 0);
            d.put(2000 + i, 105 + 10 * i, 0, 106 + 10 * i, 0);
        }
        for (int box = crowd - 1; box >= 0; box--) {
            d.put(box, -box, 0, 0, box);
        }
        return d;
    }

    private static int[] numbersDue(int crowd, int alone, int most) {
        int[] all = new int[crowd * (crowd - 1) + 2 * alone];
        int at = 0;
        for (int lower = 0; lower < crowd; lower++) {
            for (int higher = lower + 1; higher < crowd; higher++) {
                all[at++] = lower;
                all[at++] = higher;
            }
        }
        for (int i = 0; i < alone; i++) {
            all[at++] = 1000 + i;
            all[at++] = 2000 + i;
        }
        return java.util.Arrays.copyOf(all, most);
    }

    /** In pieces of 300, each from an object of its own, to stay within the 512 calls. */
    private static void manyPairs(int crowd, int alone, int pairs, int numbers) {
        String name = "7: " + pairs + " pairs, ";
        int[] want = numbersDue(crowd, alone, numbers);
        for (int from = 0; from < numbers; from += 300) {
            BoxDrawer d = crowdAndPairs(crowd, alone);
            Check.same(name + "pairs()", d.pairs(), pairs);
            Check.same(name + "count(1)", d.count(1), numbers);
            for (int k = from; k < from + 300 && k < numbers; k++) {
                Check.same(name + "result(" + k + ")", d.result(k), want[k]);
            }
            Check.throwing(name + "result(" + numbers + ")", NO_INDEX, () -> d.result(numbers));
        }
    }

    /** "how many pairs meet in all": few again after many. */
    private static void promise7FewAgain() {
        BoxDrawer d = crowdAndPairs(70, 1);
        Check.same("7: many", d.pairs(), 2416);
        Check.same("7: many in the result", d.count(1), 4096);
        for (int box = 0; box < 69; box++) {
            d.take(box);
        }
        Check.same("7: few again", d.pairs(), 1);
        Check.result("7: few again", d, 1000, 2000);
        Check.throwing("7: the next is none", NO_INDEX, () -> d.result(2));
    }

    /** "IndexOutOfBoundsException, when it is not there" */
    private static void promise8NotThere() {
        BoxDrawer d = new BoxDrawer();
        Check.throwing("8: of none", NO_INDEX, () -> d.distance(0, 0, 0));
        d.put(5, 0, 0, 1, 1);
        for (int no : new int[] {4, 6, 0, 4095, -1, 4096, Integer.MIN_VALUE, Integer.MAX_VALUE}) {
            Check.throwing("8: box " + no, NO_INDEX, () -> d.distance(no, 0, 0));
        }
        d.take(5);
        Check.throwing("8: taken", NO_INDEX, () -> d.distance(5, 0, 0));
        d.put(5, 0, 0, 1, 1);
        d.clear();
        Check.throwing("8: cleared", NO_INDEX, () -> d.distance(5, 0, 0));
    }

    /** "x or y is none from -1000000000 to 1000000000" */
    private static void promise8PlaceAtTheEnds() {
        BoxDrawer d = new BoxDrawer();
        d.put(5, 0, 0, 1, 1);
        Check.same("8: least x", d.distance(5, -FAR, 0), 1000000000000000000L);
        Check.same("8: least y", d.distance(5, 0, -FAR), 1000000000000000000L);
        Check.same("8: greatest x", d.distance(5, FAR, 1), 999999998000000001L);
        Check.same("8: greatest y", d.distance(5, 1, FAR), 999999998000000001L);
    }

    /** "IllegalArgumentException, when x or y is none from -1000000000 to 1000000000" */
    private static void promise8PlaceTooFar() {
        int[] boxes = {5};
        BoxDrawer d = new BoxDrawer();
        d.put(5, -FAR, -FAR, FAR, FAR);
        for (int no : TOO_FAR) {
            Check.refused("8: x " + no, NO_ARGUMENT, d, boxes, () -> d.distance(5, no, 0));
            Check.refused("8: y " + no, NO_ARGUMENT, d, boxes, () -> d.distance(5, 0, no));
            Check.refused("8: both " + no, NO_ARGUMENT, d, boxes, () -> d.distance(5, no, no));
        }
    }

    /** "The bounds of all boxes together": of one, its own. */
    private static void promise9OfOneBox() {
        BoxDrawer d = new BoxDrawer();
        d.put(4095, -FAR, 7, -FAR, 7);
        Check.bounds("9: negative x", d, -FAR, 7, -FAR, 7);
        d.put(4095, 8, FAR, 9, FAR);
        Check.bounds("9: positive x", d, 8, FAR, 9, FAR);
        d.put(0, 8, -FAR, 9, -FAR);
        Check.bounds("9: two", d, 8, -FAR, 9, FAR);
    }

    /** "The bounds of all boxes together": when the outermost is taken, or lies elsewhere. */
    private static void promise9Shrinking() {
        BoxDrawer d = new BoxDrawer();
        d.put(0, -50, -60, -40, -50);
        d.put(1, -5, -6, 7, 8);
        d.put(2, 70, 80, 71, 81);
        Check.bounds("9: three", d, -50, -60, 71, 81);
        d.take(0);
        Check.bounds("9: the least taken", d, -5, -6, 71, 81);
        d.put(2, 0, 0, 1, 1);
        Check.bounds("9: the greatest put anew", d, -5, -6, 7, 8);
        d.take(1);
        Check.bounds("9: the outer taken", d, 0, 0, 1, 1);
    }

    /** "IndexOutOfBoundsException, for another what" */
    private static void promise9AnotherWhat() {
        int[] boxes = {3};
        BoxDrawer d = new BoxDrawer();
        d.put(3, 1, 2, 3, 4);
        for (int no : new int[] {-1, 4, 5, Integer.MIN_VALUE, Integer.MAX_VALUE}) {
            Check.refused("9: what " + no, NO_INDEX, d, boxes, () -> d.bounds(no));
        }
        Check.same("9: the first what", d.bounds(0), 1);
        Check.same("9: the last what", d.bounds(3), 4);
    }

    /** "IllegalStateException, when there are none" */
    private static void promise9WhenNone() {
        BoxDrawer d = new BoxDrawer();
        for (int what = 0; what <= 3; what++) {
            int asked = what;
            Check.throwing("9: new, what " + what, NO_STATE, () -> d.bounds(asked));
        }
        d.put(3, 1, 2, 3, 4);
        d.take(3);
        Check.throwing("9: taken", NO_STATE, () -> d.bounds(0));
        d.put(3, 1, 2, 3, 4);
        d.clear();
        Check.throwing("9: cleared", NO_STATE, () -> d.bounds(3));
    }

    /** "Number k of the result" */
    private static void promise10FirstAndLast() {
        BoxDrawer d = new BoxDrawer();
        for (int box = 0; box < 200; box++) {
            d.put(20 * box, 0, 0, box, box);
        }
        d.find(0, 0, 0, 1, 1);
        Check.same("10: first", d.result(0), 0);
        Check.same("10: second", d.result(1), 20);
        Check.same("10: last", d.result(199), 3980);
        Check.throwing("10: behind the last", NO_INDEX, () -> d.result(200));
        Check.throwing("10: before the first", NO_INDEX, () -> d.result(-1));
    }

    /** "IndexOutOfBoundsException, when there is none" */
    private static void promise10WhenNone() {
        int[] noPlaces = {0, 1, -1, 4095, 4096, Integer.MIN_VALUE, Integer.MAX_VALUE};
        BoxDrawer d = new BoxDrawer();
        for (int no : noPlaces) {
            Check.throwing("10: result " + no + ", new", NO_INDEX, () -> d.result(no));
        }
        d.put(1, 0, 0, 1, 1);
        d.put(2, 0, 0, 1, 1);
        d.nearest(0, 0, 2);
        d.find(0, 5, 5, 6, 6);
        for (int no : noPlaces) {
            Check.throwing("10: result " + no + ", empty", NO_INDEX, () -> d.result(no));
        }
        d.nearest(0, 0, 1);
        Check.same("10: result 0 of one", d.result(0), 1);
        for (int no : new int[] {1, 2, -1, Integer.MIN_VALUE, Integer.MAX_VALUE}) {
            Check.throwing("10: result " + no + " of one", NO_INDEX, () -> d.result(no));
        }
    }

    /** "of pairs: one behind the other" */
    private static void promise10OfPairs() {
        BoxDrawer d = new BoxDrawer();
        d.put(8, 0, 0, 1, 1);
        d.put(6, 1, 1, 2, 2);
        d.put(7, 2, 2, 3, 3);
        Check.same("10: pairs", d.pairs(), 2);
        Check.same("10: lower of the first", d.result(0), 6);
        Check.same("10: higher of the first", d.result(1), 7);
        Check.same("10: lower of the last", d.result(2), 6);
        Check.same("10: higher of the last", d.result(3), 8);
        Check.throwing("10: behind the last pair", NO_INDEX, () -> d.result(4));
    }

    /** "IndexOutOfBoundsException, when it is not there" */
    private static void promise11NotThere() {
        BoxDrawer d = new BoxDrawer();
        Check.throwing("11: of none", NO_INDEX, () -> d.box(0, 0));
        d.put(5, 0, 0, 1, 1);
        for (int no : new int[] {4, 6, 0, 4095, -1, 4096, Integer.MIN_VALUE, Integer.MAX_VALUE}) {
            Check.throwing("11: box " + no, NO_INDEX, () -> d.box(no, 0));
        }
        d.take(5);
        Check.throwing("11: taken", NO_INDEX, () -> d.box(5, 0));
        d.put(5, 0, 0, 1, 1);
        d.clear();
        Check.throwing("11: cleared", NO_INDEX, () -> d.box(5, 3));
    }

    /** "or for another what" */
    private static void promise11AnotherWhat() {
        int[] boxes = {5};
        BoxDrawer d = new BoxDrawer();
        d.put(5, 1, 2, 3, 4);
        for (int no : new int[] {-1, 4, 5, Integer.MIN_VALUE, Integer.MAX_VALUE}) {
            Check.refused("11: what " + no, NO_INDEX, d, boxes, () -> d.box(5, no));
            Check.refused("11: what " + no + ", not there", NO_INDEX, d, boxes,
                    () -> d.box(6, no));
        }
        Check.same("11: the first what", d.box(5, 0), 1);
        Check.same("11: the last what", d.box(5, 3), 4);
    }

    /** "Boxes that are there (0), numbers in the result (1)": when there are none. */
    private static void promise12OfNone() {
        BoxDrawer d = new BoxDrawer();
        Check.same("12: boxes", d.count(0), 0);
        Check.same("12: result", d.count(1), 0);
        d.put(1, 0, 0, 1, 1);
        d.find(0, 0, 0, 1, 1);
        Check.same("12: one box", d.count(0), 1);
        Check.same("12: one number", d.count(1), 1);
        d.take(1);
        Check.same("12: boxes again", d.count(0), 0);
        Check.same("12: the result stays", d.count(1), 1);
        d.pairs();
        Check.same("12: result again", d.count(1), 0);
    }

    /** "numbers in the result (1)": two of each pair, 4096 at most. */
    private static void promise12OfTheMost() {
        BoxDrawer d = crowdAndPairs(66, 0);
        Check.same("12: pairs", d.pairs(), 2145);
        Check.same("12: numbers", d.count(1), 4096);
        Check.same("12: boxes", d.count(0), 66);
        d.nearest(0, 0, 4096);
        Check.same("12: numbers of nearest", d.count(1), 66);
    }

    /** "NONE for another what." */
    private static void promise12AnotherWhat() {
        BoxDrawer d = new BoxDrawer();
        d.put(1, 0, 0, 1, 1);
        d.find(0, 0, 0, 1, 1);
        for (int no : new int[] {-1, 2, 3, Integer.MIN_VALUE, Integer.MAX_VALUE}) {
            Check.same("12: what " + no, d.count(no), BoxDrawer.NONE);
        }
    }
}
