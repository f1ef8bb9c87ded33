/** Counts and prints the answers that are not the due ones. */
final class Check {
    private static int asked = 0;
    private static int failed = 0;

    private Check() {
    }

    static void due(String what, long got, long want) {
        asked++;
        if (got != want) {
            failed++;
            System.out.println(what + " answered " + got + ", due is " + want);
        }
    }

    static void yes(String what, boolean got) {
        due(what, got ? 1 : 0, 1);
    }

    static void no(String what, boolean got) {
        due(what, got ? 1 : 0, 0);
    }

    static void bytes(String what, int[] got, int... want) {
        asked++;
        if (!java.util.Arrays.equals(got, want)) {
            failed++;
            System.out.println(what + " is " + java.util.Arrays.toString(got)
                + ", due is " + java.util.Arrays.toString(want));
        }
    }

    static void end() {
        System.out.println(failed + " of " + asked + " answers are not as due");
        if (failed != 0) {
            System.exit(1);
        }
    }
}
