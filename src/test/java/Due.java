/** Compares answers with those that are due; a test that saw a wrong one ends with exit code 1. */
final class Due {
    private static int seen;
    private static int wrong;

    private Due() {
    }

    static void is(String call, long want, long got) {
        seen++;
        if (got != want) {
            wrong++;
            System.out.println(call + " answered " + got + ", due is " + want);
        }
    }

    static void is(String call, boolean want, boolean got) {
        is(call, want ? 1 : 0, got ? 1 : 0);
    }

    static void is(String call, String want, String got) {
        seen++;
        if (!want.equals(got)) {
            wrong++;
            System.out.println(call + " answered " + got + ", due is " + want);
        }
    }

    static int wrong() {
        return wrong;
    }

    static void end() {
        System.out.println(seen + " answers seen, " + wrong + " of them wrong");
        if (wrong != 0 || seen == 0) {
            System.exit(1);
        }
    }
}
