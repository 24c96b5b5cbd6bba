/** Counts answers that are as due, and prints those that are not. */
final class Check {
    private static final int MOST_PRINTED = 40;
    private static int passed = 0;
    private static int failed = 0;

    private Check() {
    }

    static void due(String call, long got, long want) {
        if (got == want) {
            passed++;
            return;
        }
        failed++;
        if (failed <= MOST_PRINTED) {
            System.out.println(call + " answered " + got + ", due is " + want);
        }
    }

    static void holds(String what, boolean is) {
        due(what, is ? 1 : 0, 1);
    }

    /** Answers in a row, each of them due. */
    static void dueAll(String calls, int[] got, int... want) {
        due(calls + ": how many", got.length, want.length);
        for (int i = 0; i < got.length && i < want.length; i++) {
            due(calls + ", number " + i, got[i], want[i]);
        }
    }

    static int failed() {
        return failed;
    }

    static String summary() {
        return passed + " passed, " + failed + " failed";
    }
}
