import java.math.BigInteger;
import java.util.ArrayList;
import java.util.Collections;
import java.util.List;
import java.util.Random;
import java.util.TreeMap;

/**
 * Long runs of calls, each answer held against a slow model that is written after the document's
 * words. The seeds are fixed: each time the same runs.
 */
public final class RandomRunsTest {
    private static final int RUNS = 400;
    private static final int CALLS = 512;
    private static final int FAR = 1000000000;

    public static void main(String[] args) {
        for (int run = 0; run < RUNS; run++) {
            new OneRun(run).go();
        }
        Check.end();
    }

    private static final class OneRun {
        private final String name;
        private final Random random;
        private final int numbers;
        private final int reach;
        private final int puts;
        private final BoxDrawer drawer = new BoxDrawer();
        private final Model model = new Model();

        OneRun(int run) {
            name = "run " + run;
            random = new Random(run);
            numbers = new int[] {6, 40, 300, 4096}[run % 4];
            reach = new int[] {3, 20, 1000, 100000, FAR}[run % 5];
            puts = new int[] {30, 60, 90}[run % 3];
        }

        void go() {
            for (int i = 0; i < CALLS; i++) {
                int call = random.nextInt(puts + 40);
                int[] a = {number(), coordinate(), coordinate(), coordinate(), coordinate()};
                if (random.nextInt(30) != 0) {
                    inOrder(a, 1, 3);
                    inOrder(a, 2, 4);
                }
                int what = random.nextInt(20) == 0 ? wild() : random.nextInt(4);
                step(call, a, what);
            }
            wholeResult();
        }

        private void step(int call, int[] a, int what) {
            int n = random.nextInt(3) == 0 ? wild() : 1 + random.nextInt(numbers);
            switch (call) {
                case 0, 1, 2, 3 -> same("take", a, () -> drawer.take(a[0]),
                        () -> model.take(a[0]));
                case 4 -> {
                    if (random.nextInt(10) == 0) {
                        same("clear", a, drawer::clear, model::clear);
                    }
                }
                case 5, 6, 7, 8, 9 -> same("find " + what, a,
                        () -> drawer.find(what, a[1], a[2], a[3], a[4]),
                        () -> model.find(what, a[1], a[2], a[3], a[4]));
                case 10, 11, 12, 13, 14 -> same("nearest " + n, a,
                        () -> drawer.nearest(a[1], a[2], n), () -> model.nearest(a[1], a[2], n));
                case 15, 16 -> same("pairs", a, drawer::pairs, model::pairs);
                case 17, 18, 19 -> same("distance", a,
                        () -> drawer.distance(a[0], a[1], a[2]),
                        () -> model.distance(a[0], a[1], a[2]));
                case 20, 21, 22 -> same("bounds " + what, a,
                        () -> drawer.bounds(what), () -> model.bounds(what));
                case 23, 24, 25, 26, 27, 28, 29 -> {
                    int k = random.nextInt(5) == 0 ? wild() : random.nextInt(8);
                    same("result " + k, a, () -> drawer.result(k), () -> model.result(k));
                }
                case 30, 31 -> wholeResult();
                case 32, 33, 34 -> same("box " + what, a,
                        () -> drawer.box(a[0], what), () -> model.box(a[0], what));
                case 35, 36 -> same("count " + what, a,
                        () -> drawer.count(what), () -> model.count(what));
                default -> same("put", a, () -> drawer.put(a[0], a[1], a[2], a[3], a[4]),
                        () -> model.put(a[0], a[1], a[2], a[3], a[4]));
            }
        }

        private void wholeResult() {
            int[] want = new int[model.result.size()];
            for (int k = 0; k < want.length; k++) {
                want[k] = model.result.get(k);
            }
            Check.result(name, drawer, want);
        }

        private void same(String call, int[] a, Check.Call made, Check.Call due) {
            String got = told(made);
            String want = told(due);
            if (!got.equals(want)) {
                Check.say(name + ": " + call + " of " + java.util.Arrays.toString(a)
                        + " answered " + got + ", due is " + want);
            }
        }

        private static String told(Check.Call call) {
            try {
                return String.valueOf(call.answer());
            } catch (RuntimeException thrown) {
                return thrown.getClass().getName();
            }
        }

        private int number() {
            return random.nextInt(40) == 0 ? wild() : random.nextInt(numbers);
        }

        private int coordinate() {
            if (random.nextInt(100) == 0) {
                return wild();
            }
            return random.nextInt(reach + 1) * (random.nextBoolean() ? 1 : -1);
        }

        private int wild() {
            int[] edges = {-1, 0, 4, 4095, 4096, 4097, FAR, FAR + 1, -FAR, -FAR - 1,
                Integer.MAX_VALUE, Integer.MIN_VALUE};
            return edges[random.nextInt(edges.length)];
        }

        private static void inOrder(int[] a, int low, int high) {
            if (a[low] > a[high]) {
                int lower = a[high];
                a[high] = a[low];
                a[low] = lower;
            }
        }
    }

    private static final class Model {
        private final TreeMap<Integer, int[]> boxes = new TreeMap<>();
        private final List<Integer> result = new ArrayList<>();

        Object put(int box, int... bounds) {
            number(box);
            bounds(bounds);
            return boxes.put(box, bounds) != null;
        }

        Object take(int box) {
            number(box);
            return boxes.remove(box) != null;
        }

        Object clear() {
            int were = boxes.size();
            boxes.clear();
            return were;
        }

        Object find(int what, int... window) {
            bounds(window);
            argument(what >= 0 && what <= 2);
            result.clear();
            for (int box : boxes.keySet()) {
                int[] its = boxes.get(box);
                int[] both = common(its, window);
                boolean meet = both[0] <= both[2] && both[1] <= both[3];
                boolean fits = what == 0 ? meet
                        : java.util.Arrays.equals(both, what == 1 ? its : window);
                if (fits) {
                    result.add(box);
                }
            }
            return result.size();
        }

        Object nearest(int x, int y, int n) {
            argument(n >= 1 && n <= 4096);
            place(x, y);
            List<Integer> all = new ArrayList<>(boxes.keySet());
            Collections.sort(all, (a, b) -> {
                int byWay = way(a, x, y).compareTo(way(b, x, y));
                return byWay != 0 ? byWay : a - b;
            });
            result.clear();
            result.addAll(all.subList(0, Math.min(n, all.size())));
            return result.size();
        }

        Object pairs() {
            result.clear();
            int all = 0;
            for (int lower : boxes.keySet()) {
                for (int higher : boxes.tailMap(lower, false).keySet()) {
                    int[] both = common(boxes.get(lower), boxes.get(higher));
                    if (both[0] <= both[2] && both[1] <= both[3]) {
                        all++;
                        if (all <= 2048) {
                            result.add(lower);
                            result.add(higher);
                        }
                    }
                }
            }
            return all;
        }

        Object distance(int box, int x, int y) {
            index(boxes.containsKey(box));
            place(x, y);
            return way(box, x, y);
        }

        Object bounds(int what) {
            index(what >= 0 && what <= 3);
            if (boxes.isEmpty()) {
                throw new IllegalStateException();
            }
            List<Integer> all = new ArrayList<>();
            for (int[] its : boxes.values()) {
                all.add(its[what]);
            }
            return what < 2 ? Collections.min(all) : Collections.max(all);
        }

        Object result(int k) {
            index(k >= 0 && k < result.size());
            return result.get(k);
        }

        Object box(int box, int what) {
            index(boxes.containsKey(box));
            index(what >= 0 && what <= 3);
            return boxes.get(box)[what];
        }

        Object count(int what) {
            return what == 0 ? boxes.size() : what == 1 ? result.size() : -1;
        }

        /** The square of the way to the place that is got by moving this one into the box. */
        private BigInteger way(int box, int x, int y) {
            int[] its = boxes.get(box);
            BigInteger wayX = BigInteger.valueOf(Math.max(its[0], Math.min(x, its[2])))
                    .subtract(BigInteger.valueOf(x));
            BigInteger wayY = BigInteger.valueOf(Math.max(its[1], Math.min(y, its[3])))
                    .subtract(BigInteger.valueOf(y));
            return wayX.multiply(wayX).add(wayY.multiply(wayY));
        }

        private static int[] common(int[] a, int[] b) {
            return new int[] {Math.max(a[0], b[0]), Math.max(a[1], b[1]),
                Math.min(a[2], b[2]), Math.min(a[3], b[3])};
        }

        private static void number(int box) {
            index(box >= 0 && box <= 4095);
        }

        private static void bounds(int[] b) {
            place(b[0], b[1]);
            place(b[2], b[3]);
            argument(b[0] <= b[2] && b[1] <= b[3]);
        }

        private static void place(long x, long y) {
            argument(Math.abs(x) <= FAR && Math.abs(y) <= FAR);
        }

        private static void argument(boolean good) {
            if (!good) {
                throw new IllegalArgumentException();
            }
        }

        private static void index(boolean good) {
            if (!good) {
                throw new IndexOutOfBoundsException();
            }
        }
    }
}
