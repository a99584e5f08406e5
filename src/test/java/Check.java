import java.util.Arrays;

/** What the tests share: each wrong answer is printed and counted, and end() tells the count. */
final class Check {
    interface Call {
        Object answer();
    }

    private static int wrong = 0;

    private Check() {
    }

    static void same(String call, long got, long want) {
        if (got != want) {
            say(call + " answered " + got + ", due is " + want);
        }
    }

    static void same(String call, boolean got, boolean want) {
        if (got != want) {
            say(call + " answered " + got + ", due is " + want);
        }
    }

    /** The exact class counts: a machine's ArrayIndexOutOfBoundsException is not what is due. */
    static void throwing(String call, Class<?> want, Call made) {
        Class<?> got = thrownBy(made);
        if (got != want) {
            say(call + " threw " + got + ", due is " + want);
        }
    }

    static Class<?> thrownBy(Call made) {
        try {
            made.answer();
            return null;
        } catch (RuntimeException thrown) {
            return thrown.getClass();
        }
    }

    static void result(String call, BoxDrawer drawer, int... want) {
        int[] got = new int[Math.max(0, drawer.count(1))];
        for (int k = 0; k < got.length; k++) {
            got[k] = drawer.result(k);
        }
        if (!Arrays.equals(got, want)) {
            say(call + " made the result " + Arrays.toString(got) + ", due is "
                    + Arrays.toString(want));
        }
    }

    static void box(String call, BoxDrawer drawer, int box, int... want) {
        for (int what = 0; what < 4; what++) {
            same(call + ", box(" + box + ", " + what + ")", drawer.box(box, what), want[what]);
        }
    }

    static void bounds(String call, BoxDrawer drawer, int... want) {
        for (int what = 0; what < 4; what++) {
            same(call + ", bounds(" + what + ")", drawer.bounds(what), want[what]);
        }
    }

    /** The call throws this, and neither these boxes, nor their count, nor the result change. */
    static void refused(String call, Class<?> want, BoxDrawer drawer, int[] boxes, Call made) {
        String before = state(drawer, boxes);
        throwing(call, want, made);
        String after = state(drawer, boxes);
        if (!after.equals(before)) {
            say(call + " is refused, but made of " + before + " this: " + after);
        }
    }

    private static String state(BoxDrawer drawer, int[] boxes) {
        StringBuilder text = new StringBuilder("count " + drawer.count(0));
        for (int box : boxes) {
            text.append(", box ").append(box).append(':');
            for (int what = 0; what < 4; what++) {
                text.append(' ').append(told(drawer, box, what));
            }
        }
        text.append(", result");
        for (int k = 0; k < drawer.count(1); k++) {
            text.append(' ').append(drawer.result(k));
        }
        return text.toString();
    }

    private static String told(BoxDrawer drawer, int box, int what) {
        try {
            return String.valueOf(drawer.box(box, what));
        } catch (RuntimeException thrown) {
            return thrown.getClass().getSimpleName();
        }
    }

    static void end() {
        System.out.println(wrong == 0 ? "all answers are as due" : wrong + " are not as due");
        if (wrong != 0) {
            System.exit(1);
        }
    }

    static void say(String fault) {
        wrong++;
        System.out.println(fault);
    }
}
