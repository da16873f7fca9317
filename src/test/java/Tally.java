/** Counts the answers that were as due, and prints those that were not. */
final class Tally {
    private static int passed = 0;
    private static int failed = 0;

    private Tally() {
    }

    static void due(String what, long got, long want) {
        if (got == want) {
            passed++;
        } else {
            failed++;
            System.out.println(what + " answered " + got + ", due is " + want);
        }
    }

    static void holds(String what, boolean is) {
        due(what, is ? 1 : 0, 1);
    }

    static int failed() {
        return failed;
    }

    static String line() {
        return passed + " passed, " + failed + " failed";
    }
}
