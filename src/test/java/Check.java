/** Counts and prints the answers that are not the due ones, with the sentence of the document that they break. */
final class Check {
    private static String sentence = "";
    private static int sentences = 0;
    private static int asked = 0;
    private static int failed = 0;

    private Check() {
    }

    /** The sentence of the document that the next answers are about. */
    static void says(String words) {
        sentence = words;
        sentences++;
    }

    private static void judge(boolean good, String what, Object got, Object want) {
        asked++;
        if (!good) {
            failed++;
            System.out.println("\"" + sentence + "\": " + what + " answered " + got + ", due is " + want);
        }
    }

    static void due(String what, long got, long want) {
        judge(got == want, what, got, want);
    }

    static void yes(String what, boolean got) {
        judge(got, what, got, true);
    }

    static void no(String what, boolean got) {
        judge(!got, what, got, false);
    }

    static void same(String what, String got, String want) {
        judge(got.equals(want), what, got, want);
    }

    static void bytes(String what, int[] got, int... want) {
        judge(java.util.Arrays.equals(got, want), what, java.util.Arrays.toString(got), java.util.Arrays.toString(want));
    }

    /** The first answers of a row are these. */
    static void first(String what, int[] got, int... want) {
        bytes(what, java.util.Arrays.copyOf(got, Math.min(got.length, want.length)), want);
    }

    static void end() {
        System.out.println(sentences + " sentences: " + failed + " of " + asked + " answers are not as due");
        if (failed != 0) {
            System.exit(1);
        }
    }
}
