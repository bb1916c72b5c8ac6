import java.util.Arrays;

/** Compares answers with those that are due, and ends a test. */
final class Due {
    private static int wrong = 0;

    private Due() {
    }

    static void is(String call, long want, long got) {
        if (got != want) {
            wrong++;
            System.out.println(call + " answered " + got + ", due is " + want);
        }
    }

    static void are(String call, long[] want, long[] got) {
        if (!Arrays.equals(want, got)) {
            wrong++;
            System.out.println(call + " answered " + Arrays.toString(got) + ", due is " + Arrays.toString(want));
        }
    }

    static void end() {
        if (wrong != 0) {
            System.out.println(wrong + " answers are not as due");
            System.exit(1);
        }
    }
}
