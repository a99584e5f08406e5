import java.util.Arrays;

/** What the tests share: each wrong answer is printed and counted, and end() tells the count. */
final class Check {
    interface Call {
        Object answer();
    }

    private static int wrong = 0;

    private Check() {
    }

    static void same(String call, long got, long want) {
        if (got != want) {
            say(call + " answered " + got + ", due is " + want);
        }
    }

    static void same(String call, boolean got, boolean want) {
        if (got != want) {
            say(call + " answered " + got + ", due is " + want);
        }
    }

    /** The exact class counts: a machine's ArrayIndexOutOfBoundsException is not what is due. */
    static void throwing(String call, Class<?> want, Call made) {
        Class<?> got = thrownBy(made);
        if (got != want) {
            say(call + " threw " + got + ", due is " + want);
        }
    }

    static Class<?> thrownBy(Call made) {
        try {
            made.answer();
            return null;
        } catch (RuntimeException thrown) {
            return thrown.getClass();
        }
    }

    static void result(String call, BoxDrawer drawer, int... want) {
        int[] got = new int[Math.max(0, drawer.count(1))];
        for (int k = 0; k < got.length; k++) {
            got[k] = drawer.result(k);
        }
        if (!Arrays.equals(got, want)) {
            say(call + " made the result " + Arrays.toString(got) + ", due is "
                    + Arrays.toString(want));
        }
    }

    static void end() {
        System.out.println(wrong == 0 ? "all answers are as due" : wrong + " are not as due");
        if (wrong != 0) {
            System.exit(1);
        }
    }

    static void say(String fault) {
        wrong++;
        System.out.println(fault);
    }
}
