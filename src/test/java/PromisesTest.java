import java.util.Arrays;

/** For each promise of the document: ordinary inputs, the edges that it names, wrong inputs. */
public final class PromisesTest {
    private static final int FAR = 1000000000;
    private static final Class<?> NO_INDEX = IndexOutOfBoundsException.class;
    private static final Class<?> NO_ARGUMENT = IllegalArgumentException.class;
    private static final Class<?> NO_STATE = IllegalStateException.class;
    private static final int[] NO_NUMBERS = {-1, 4096, Integer.MIN_VALUE, Integer.MAX_VALUE};
    private static final int[] NO_COORDINATES =
            {-FAR - 1, FAR + 1, Integer.MIN_VALUE, Integer.MAX_VALUE};

    public static void main(String[] args) {
        promise1NewObject();
        promise2Put();
        promise2PutWrong();
        promise3Take();
        promise4Clear();
        promise5FindMeeting();
        promise5FindLyingIn();
        promise5FindHavingIn();
        promise5FindWrong();
        promise6Nearest();
        promise6NearestFar();
        promise6NearestWrong();
        promise7Pairs();
        promise7ManyPairs();
        promise8Distance();
        promise8DistanceWrong();
        promise9Bounds();
        promise10Result();
        promise10ResultStays();
        promise11Box();
        promise12Count();
        Check.end();
    }

    private static void promise1NewObject() {
        BoxDrawer d = new BoxDrawer();
        Check.same("1: NONE", BoxDrawer.NONE, -1);
        Check.same("1: count(0)", d.count(0), 0);
        Check.same("1: count(1)", d.count(1), 0);
        Check.throwing("1: result(0)", NO_INDEX, () -> d.result(0));
        Check.throwing("1: bounds(0)", NO_STATE, () -> d.bounds(0));
        Check.throwing("1: box(0, 0)", NO_INDEX, () -> d.box(0, 0));
        Check.same("1: find", d.find(0, -FAR, -FAR, FAR, FAR), 0);
        Check.same("1: nearest", d.nearest(0, 0, 4096), 0);
        Check.same("1: pairs", d.pairs(), 0);
        BoxDrawer other = new BoxDrawer();
        d.put(1, 0, 0, 1, 1);
        d.find(0, 0, 0, 1, 1);
        Check.same("1: another's count(0)", other.count(0), 0);
        Check.same("1: another's count(1)", other.count(1), 0);
    }

    private static void promise2Put() {
        BoxDrawer d = new BoxDrawer();
        Check.same("2: put(0)", d.put(0, -FAR, -FAR, FAR, FAR), false);
        Check.same("2: put(4095)", d.put(4095, FAR, -FAR, FAR, -FAR), false);
        Check.same("2: put(9)", d.put(9, 1, 2, 3, 4), false);
        Check.box("2: box 0", d, 0, -FAR, -FAR, FAR, FAR);
        Check.box("2: box 4095", d, 4095, FAR, -FAR, FAR, -FAR);
        Check.box("2: box 9", d, 9, 1, 2, 3, 4);
        Check.same("2: count(0)", d.count(0), 3);
        Check.same("2: put(9) again", d.put(9, -4, -3, -2, -1), true);
        Check.box("2: box 9 again", d, 9, -4, -3, -2, -1);
        Check.same("2: count(0) again", d.count(0), 3);
        d.take(9);
        Check.same("2: put(9) after take", d.put(9, 0, 0, 0, 0), false);
        d.clear();
        Check.same("2: put(9) after clear", d.put(9, 0, 0, 0, 0), false);
    }

    private static void promise2PutWrong() {
        BoxDrawer d = new BoxDrawer();
        d.put(5, 1, 2, 3, 4);
        for (int no : NO_NUMBERS) {
            Check.throwing("2: put(" + no + ")", NO_INDEX, () -> d.put(no, 0, 0, 1, 1));
            Check.throwing("2: put(" + no + ") of no bounds", NO_INDEX,
                    () -> d.put(no, 1, 1, 0, 0));
        }
        for (int no : NO_COORDINATES) {
            Check.throwing("2: lowX " + no, NO_ARGUMENT, () -> d.put(5, no, 0, FAR, 1));
            Check.throwing("2: lowY " + no, NO_ARGUMENT, () -> d.put(5, 0, no, 1, FAR));
            Check.throwing("2: highX " + no, NO_ARGUMENT, () -> d.put(5, -FAR, 0, no, 1));
            Check.throwing("2: highY " + no, NO_ARGUMENT, () -> d.put(5, 0, -FAR, 1, no));
        }
        Check.throwing("2: x turned", NO_ARGUMENT, () -> d.put(5, 1, 0, 0, 9));
        Check.throwing("2: y turned", NO_ARGUMENT, () -> d.put(6, 0, 1, 9, 0));
        Check.box("2: box 5 stays", d, 5, 1, 2, 3, 4);
        Check.same("2: count(0) stays", d.count(0), 1);
    }

    private static void promise3Take() {
        BoxDrawer d = new BoxDrawer();
        Check.same("3: take of none", d.take(3), false);
        for (int box : new int[] {0, 4095, 7, 3}) {
            d.put(box, box, 0, box, 0);
        }
        Check.same("3: take(5)", d.take(5), false);
        Check.same("3: take(7)", d.take(7), true);
        Check.same("3: take(7) again", d.take(7), false);
        Check.throwing("3: box(7, 0)", NO_INDEX, () -> d.box(7, 0));
        Check.same("3: find", d.find(0, -FAR, -FAR, FAR, FAR), 3);
        Check.result("3: find", d, 0, 3, 4095);
        Check.same("3: take(0)", d.take(0), true);
        Check.same("3: take(4095)", d.take(4095), true);
        Check.same("3: count(0)", d.count(0), 1);
        Check.box("3: box 3", d, 3, 3, 0, 3, 0);
        for (int no : NO_NUMBERS) {
            Check.throwing("3: take(" + no + ")", NO_INDEX, () -> d.take(no));
        }
        Check.same("3: count(0) at last", d.count(0), 1);
    }

    private static void promise4Clear() {
        BoxDrawer d = new BoxDrawer();
        Check.same("4: clear of none", d.clear(), 0);
        d.put(2, 0, 0, 1, 1);
        d.put(4, 0, 0, 1, 1);
        d.put(2, 0, 0, 2, 2);
        Check.same("4: clear", d.clear(), 2);
        Check.same("4: count(0)", d.count(0), 0);
        Check.same("4: take(2)", d.take(2), false);
        Check.throwing("4: bounds(0)", NO_STATE, () -> d.bounds(0));
        Check.same("4: clear again", d.clear(), 0);
        d.put(2, 5, 6, 7, 8);
        Check.box("4: box 2 anew", d, 2, 5, 6, 7, 8);
        Check.same("4: pairs", d.pairs(), 0);
    }

    private static void promise5FindMeeting() {
        BoxDrawer d = aroundTheWindow();
        Check.same("5: find(0)", d.find(0, 0, 0, 10, 10), 7);
        Check.result("5: find(0)", d, 1, 2, 3, 10, 11, 20, 40);
        Check.same("5: find(0) of a place", d.find(0, 10, 10, 10, 10), 4);
        Check.result("5: find(0) of a place", d, 1, 3, 11, 20);
        Check.same("5: find(0) of none", d.find(0, 500, 500, 501, 501), 0);
        Check.result("5: find(0) of none", d);
        Check.same("5: find(0) of all", d.find(0, -FAR, -FAR, FAR, FAR), 9);
        Check.result("5: find(0) of all", d, 1, 2, 3, 10, 11, 20, 30, 31, 40);
    }

    private static void promise5FindLyingIn() {
        BoxDrawer d = aroundTheWindow();
        Check.same("5: find(1)", d.find(1, 0, 0, 10, 10), 3);
        Check.result("5: find(1)", d, 1, 2, 11);
        Check.same("5: find(1) of less", d.find(1, 1, 0, 10, 10), 2);
        Check.result("5: find(1) of less", d, 2, 11);
        Check.same("5: find(1) lowY", d.find(1, 0, 1, 10, 10), 2);
        Check.result("5: find(1) lowY", d, 2, 11);
        Check.same("5: find(1) highX", d.find(1, 0, 0, 9, 10), 1);
        Check.result("5: find(1) highX", d, 2);
        Check.same("5: find(1) highY", d.find(1, 0, 0, 10, 9), 1);
        Check.result("5: find(1) highY", d, 2);
    }

    private static void promise5FindHavingIn() {
        BoxDrawer d = aroundTheWindow();
        Check.same("5: find(2)", d.find(2, 0, 0, 10, 10), 2);
        Check.result("5: find(2)", d, 1, 20);
        Check.same("5: find(2) lowX", d.find(2, -1, 0, 10, 10), 1);
        Check.result("5: find(2) lowX", d, 20);
        Check.same("5: find(2) lowY", d.find(2, 0, -1, 10, 10), 1);
        Check.same("5: find(2) highX", d.find(2, 0, 0, 11, 10), 1);
        Check.same("5: find(2) highY", d.find(2, 0, 0, 10, 11), 1);
        Check.same("5: find(2) of all", d.find(2, -FAR, -FAR, FAR, FAR), 0);
    }

    /** Put with falling and mixed numbers, so that their order is not that of the calls. */
    private static BoxDrawer aroundTheWindow() {
        BoxDrawer d = new BoxDrawer();
        d.put(40, -5, 4, 15, 5);
        d.put(20, -1, -1, 11, 11);
        d.put(30, 11, 0, 20, 10);
        d.put(1, 0, 0, 10, 10);
        d.put(31, 0, -9, 10, -1);
        d.put(11, 10, 10, 10, 10);
        d.put(3, 10, 10, 20, 20);
        d.put(2, 3, 3, 5, 5);
        d.put(10, -9, -9, 0, 0);
        return d;
    }

    private static void promise5FindWrong() {
        BoxDrawer d = new BoxDrawer();
        d.put(8, 0, 0, 1, 1);
        d.find(0, 0, 0, 1, 1);
        for (int no : new int[] {-1, 3, Integer.MIN_VALUE, Integer.MAX_VALUE}) {
            Check.throwing("5: find(" + no + ")", NO_ARGUMENT, () -> d.find(no, 0, 0, 1, 1));
        }
        for (int no : NO_COORDINATES) {
            Check.throwing("5: lowX " + no, NO_ARGUMENT, () -> d.find(0, no, 0, FAR, 1));
            Check.throwing("5: lowY " + no, NO_ARGUMENT, () -> d.find(1, 0, no, 1, FAR));
            Check.throwing("5: highX " + no, NO_ARGUMENT, () -> d.find(2, -FAR, 0, no, 1));
            Check.throwing("5: highY " + no, NO_ARGUMENT, () -> d.find(0, 0, -FAR, 1, no));
        }
        Check.throwing("5: x turned", NO_ARGUMENT, () -> d.find(0, 1, 0, 0, 9));
        Check.throwing("5: y turned", NO_ARGUMENT, () -> d.find(0, 0, 1, 9, 0));
        Check.result("5: wrong calls leave the result", d, 8);
    }

    private static void promise6Nearest() {
        BoxDrawer d = new BoxDrawer();
        d.put(50, 3, 4, 9, 9);
        d.put(40, -5, 0, -5, 0);
        d.put(30, 0, 5, 0, 7);
        d.put(20, -1, -1, 1, 1);
        d.put(60, 0, 0, 0, 0);
        d.put(10, 1, 1, 2, 2);
        Check.same("6: nearest(1)", d.nearest(0, 0, 1), 1);
        Check.result("6: nearest(1)", d, 20);
        Check.same("6: nearest(2)", d.nearest(0, 0, 2), 2);
        Check.result("6: nearest(2)", d, 20, 60);
        Check.same("6: nearest(4)", d.nearest(0, 0, 4), 4);
        Check.result("6: nearest(4), equally near", d, 20, 60, 10, 30);
        Check.same("6: nearest(6)", d.nearest(0, 0, 6), 6);
        Check.result("6: nearest(6)", d, 20, 60, 10, 30, 40, 50);
        Check.same("6: nearest(7)", d.nearest(0, 0, 7), 6);
        Check.same("6: nearest(4096)", d.nearest(9, 9, 4096), 6);
        Check.result("6: nearest(4096)", d, 50, 30, 10, 20, 60, 40);
        d.clear();
        Check.same("6: nearest of none", d.nearest(0, 0, 1), 0);
        Check.result("6: nearest of none", d);
    }

    private static void promise6NearestFar() {
        BoxDrawer d = new BoxDrawer();
        d.put(1, FAR, FAR, FAR, FAR);
        d.put(2, FAR, FAR - 1, FAR, FAR);
        d.put(3, -FAR, 0, -FAR, 0);
        d.put(4, 0, -FAR, 0, -FAR);
        Check.same("6: far", d.nearest(-FAR, -FAR, 4), 4);
        Check.result("6: far", d, 3, 4, 2, 1);
        BoxDrawer line = new BoxDrawer();
        int[] want = new int[200];
        for (int i = 0; i < 200; i++) {
            int number = i * 7 % 200;
            line.put(number, 2 * number, 0, 2 * number, 0);
            want[i] = 199 - i;
        }
        Check.same("6: a line", line.nearest(FAR, 0, 200), 200);
        Check.result("6: a line", line, want);
        Check.same("6: a line's end", line.nearest(FAR, 0, 17), 17);
        Check.result("6: a line's end", line, Arrays.copyOf(want, 17));
    }

    private static void promise6NearestWrong() {
        BoxDrawer d = new BoxDrawer();
        d.put(8, 0, 0, 1, 1);
        d.nearest(FAR, -FAR, 1);
        for (int no : new int[] {0, -1, 4097, Integer.MIN_VALUE, Integer.MAX_VALUE}) {
            Check.throwing("6: n " + no, NO_ARGUMENT, () -> d.nearest(0, 0, no));
        }
        for (int no : NO_COORDINATES) {
            Check.throwing("6: x " + no, NO_ARGUMENT, () -> d.nearest(no, 0, 1));
            Check.throwing("6: y " + no, NO_ARGUMENT, () -> d.nearest(0, no, 1));
        }
        Check.result("6: wrong calls leave the result", d, 8);
    }

    private static void promise7Pairs() {
        BoxDrawer d = new BoxDrawer();
        d.put(9, 0, 0, 10, 10);
        Check.same("7: one box", d.pairs(), 0);
        d.put(5, 10, 10, 20, 20);
        d.put(7, 11, 0, 20, 9);
        d.put(2, 5, 5, 5, 5);
        d.put(1, 15, 8, 15, 10);
        Check.same("7: pairs", d.pairs(), 4);
        Check.result("7: pairs", d, 1, 5, 1, 7, 2, 9, 5, 9);
        d.put(3, -FAR, -FAR, FAR, FAR);
        Check.same("7: pairs with one of all", d.pairs(), 9);
        Check.result("7: pairs with one of all", d,
                1, 3, 1, 5, 1, 7, 2, 3, 2, 9, 3, 5, 3, 7, 3, 9, 5, 9);
        d.take(3);
        d.take(5);
        d.take(1);
        Check.same("7: pairs at last", d.pairs(), 1);
        Check.result("7: pairs at last", d, 2, 9);
    }

    private static void promise7ManyPairs() {
        BoxDrawer d = new BoxDrawer();
        // 64 boxes make 2016 pairs, and the alone ones 32 more: 2048, the most that are kept.
        for (int box = 163; box >= 100; box--) {
            d.put(box, 0, 0, 1, 1);
        }
        for (int box = 200; box < 232; box++) {
            d.put(box, 10 * box, 50, 10 * box + 1, 50);
            d.put(box + 100, 10 * box + 1, 50, 10 * box + 2, 50);
        }
        Check.same("7: 2048 pairs", d.pairs(), 2048);
        Check.same("7: 2048 pairs' numbers", d.count(1), 4096);
        Check.same("7: the last pair's lower", d.result(4094), 231);
        Check.same("7: the last pair's higher", d.result(4095), 331);
        Check.throwing("7: result(4096)", NO_INDEX, () -> d.result(4096));
        d.put(99, 0, 0, 0, 0);
        Check.same("7: 2112 pairs", d.pairs(), 2112);
        Check.same("7: 2112 pairs' numbers", d.count(1), 4096);
        Check.same("7: the first pair's lower", d.result(0), 99);
        Check.same("7: the first pair's higher", d.result(1), 100);
        // Left out: all 28 pairs of 156 and above, the last 4 of 155, and the 32 alone ones.
        Check.same("7: the last kept lower", d.result(4094), 155);
        Check.same("7: the last kept higher", d.result(4095), 159);
        Check.throwing("7: result(4096) of 2112", NO_INDEX, () -> d.result(4096));
    }

    private static void promise8Distance() {
        BoxDrawer d = new BoxDrawer();
        d.put(6, -2, 10, 4, 20);
        Check.same("8: inside", d.distance(6, 0, 15), 0);
        Check.same("8: at the low corner", d.distance(6, -2, 10), 0);
        Check.same("8: at the high corner", d.distance(6, 4, 20), 0);
        Check.same("8: left", d.distance(6, -5, 15), 9);
        Check.same("8: right", d.distance(6, 6, 15), 4);
        Check.same("8: below", d.distance(6, 0, 3), 49);
        Check.same("8: above", d.distance(6, 0, 21), 1);
        Check.same("8: left and below", d.distance(6, -5, 6), 25);
        Check.same("8: right and above", d.distance(6, 9, 32), 169);
        d.put(0, FAR, FAR, FAR, FAR);
        d.put(4095, -FAR, -FAR, -FAR, -FAR);
        Check.same("8: farthest", d.distance(0, -FAR, -FAR), 8000000000000000000L);
        Check.same("8: farthest", d.distance(4095, FAR, FAR), 8000000000000000000L);
        Check.same("8: far", d.distance(4095, FAR, -FAR + 1), 4000000000000000001L);
    }

    private static void promise8DistanceWrong() {
        BoxDrawer d = new BoxDrawer();
        d.put(6, 0, 0, 1, 1);
        for (int no : NO_NUMBERS) {
            Check.throwing("8: box " + no, NO_INDEX, () -> d.distance(no, 0, 0));
            Check.throwing("8: box " + no + " from no place", NO_INDEX,
                    () -> d.distance(no, FAR + 1, 0));
        }
        Check.throwing("8: box 5", NO_INDEX, () -> d.distance(5, 0, 0));
        Check.throwing("8: box 7", NO_INDEX, () -> d.distance(7, 0, FAR + 1));
        for (int no : NO_COORDINATES) {
            Check.throwing("8: x " + no, NO_ARGUMENT, () -> d.distance(6, no, 0));
            Check.throwing("8: y " + no, NO_ARGUMENT, () -> d.distance(6, 0, no));
        }
        d.take(6);
        Check.throwing("8: box 6 taken", NO_INDEX, () -> d.distance(6, 0, 0));
    }

    private static void promise9Bounds() {
        BoxDrawer d = new BoxDrawer();
        int[] noWhats = {-1, 4, Integer.MIN_VALUE, Integer.MAX_VALUE};
        for (int no : noWhats) {
            Check.throwing("9: bounds(" + no + ") of none", NO_INDEX, () -> d.bounds(no));
        }
        for (int what = 0; what < 4; what++) {
            int asked = what;
            Check.throwing("9: bounds(" + what + ") of none", NO_STATE, () -> d.bounds(asked));
        }
        d.put(3, 10, 20, 30, 40);
        Check.bounds("9: one", d, 10, 20, 30, 40);
        d.put(1, 12, -5, 13, -4);
        d.put(2, -7, 21, -6, 22);
        d.put(9, 14, 90, 15, 91);
        d.put(8, 80, 23, 81, 24);
        Check.bounds("9: five", d, -7, -5, 81, 91);
        d.take(2);
        d.take(9);
        Check.bounds("9: three", d, 10, -5, 81, 40);
        d.put(8, 11, 21, 12, 22);
        Check.bounds("9: one put anew", d, 10, -5, 30, 40);
        for (int no : noWhats) {
            Check.throwing("9: bounds(" + no + ")", NO_INDEX, () -> d.bounds(no));
        }
    }

    private static void promise10Result() {
        BoxDrawer d = new BoxDrawer();
        d.put(4, 0, 0, 1, 1);
        d.put(0, 0, 0, 1, 1);
        Check.throwing("10: none at first", NO_INDEX, () -> d.result(0));
        d.find(0, 0, 0, 0, 0);
        Check.same("10: result(0)", d.result(0), 0);
        Check.same("10: result(1)", d.result(1), 4);
        for (int no : new int[] {2, -1, 4096, Integer.MIN_VALUE, Integer.MAX_VALUE}) {
            Check.throwing("10: result(" + no + ")", NO_INDEX, () -> d.result(no));
        }
        d.find(0, 9, 9, 9, 9);
        Check.throwing("10: result(0) of none", NO_INDEX, () -> d.result(0));
        BoxDrawer many = new BoxDrawer();
        int[] want = new int[400];
        for (int i = 0; i < 400; i++) {
            want[i] = 10 * i;
            many.put(10 * i, i, i, i, i);
        }
        many.find(1, 0, 0, 400, 400);
        Check.same("10: 400 numbers", many.count(1), 400);
        Check.same("10: the last of 400", many.result(399), want[399]);
        Check.throwing("10: result(400)", NO_INDEX, () -> many.result(400));
    }

    private static void promise10ResultStays() {
        BoxDrawer d = new BoxDrawer();
        d.put(4, 0, 0, 1, 1);
        d.put(6, 1, 1, 2, 2);
        d.find(0, 0, 0, 2, 2);
        d.put(5, 0, 0, 1, 1);
        Check.result("10: put leaves it", d, 4, 6);
        d.take(4);
        Check.result("10: take leaves it", d, 4, 6);
        d.distance(6, 0, 0);
        d.bounds(0);
        d.box(6, 0);
        d.count(0);
        Check.result("10: asking leaves it", d, 4, 6);
        d.clear();
        Check.result("10: clear leaves it", d, 4, 6);
        Check.same("10: pairs of none", d.pairs(), 0);
        Check.result("10: pairs makes it anew", d);
        d.put(7, 0, 0, 1, 1);
        d.nearest(0, 0, 3);
        Check.result("10: nearest makes it anew", d, 7);
        d.find(0, 5, 5, 6, 6);
        Check.result("10: find makes it anew", d);
    }

    private static void promise11Box() {
        BoxDrawer d = new BoxDrawer();
        d.put(0, -1, -2, 3, 4);
        d.put(4095, -FAR, 0, 0, FAR);
        Check.box("11: box 0", d, 0, -1, -2, 3, 4);
        Check.box("11: box 4095", d, 4095, -FAR, 0, 0, FAR);
        for (int no : new int[] {-1, 4, Integer.MIN_VALUE, Integer.MAX_VALUE}) {
            Check.throwing("11: box(0, " + no + ")", NO_INDEX, () -> d.box(0, no));
            Check.throwing("11: box(1, " + no + ")", NO_INDEX, () -> d.box(1, no));
        }
        for (int no : NO_NUMBERS) {
            Check.throwing("11: box(" + no + ", 0)", NO_INDEX, () -> d.box(no, 0));
        }
        Check.throwing("11: box(1, 0)", NO_INDEX, () -> d.box(1, 0));
        d.take(0);
        Check.throwing("11: box(0, 0) taken", NO_INDEX, () -> d.box(0, 0));
    }

    private static void promise12Count() {
        BoxDrawer d = new BoxDrawer();
        for (int no : new int[] {-1, 2, 3, Integer.MIN_VALUE, Integer.MAX_VALUE}) {
            Check.same("12: count(" + no + ")", d.count(no), BoxDrawer.NONE);
        }
        d.put(3, 0, 0, 5, 5);
        d.put(4, 0, 0, 5, 5);
        d.put(5, 9, 9, 9, 9);
        d.put(5, 9, 9, 9, 9);
        Check.same("12: count(0)", d.count(0), 3);
        Check.same("12: count(1) at first", d.count(1), 0);
        d.find(0, 9, 9, 9, 9);
        Check.same("12: count(1) of find", d.count(1), 1);
        d.pairs();
        Check.same("12: count(1) of pairs", d.count(1), 2);
        d.nearest(0, 0, 9);
        Check.same("12: count(1) of nearest", d.count(1), 3);
        d.take(4);
        Check.same("12: count(0) after take", d.count(0), 2);
        Check.same("12: count(1) after take", d.count(1), 3);
        d.clear();
        Check.same("12: count(0) after clear", d.count(0), 0);
    }
}
