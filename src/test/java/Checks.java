/** Counts what is as due, and prints what is not. */
final class Checks {
    private final String title;
    private int passed = 0;
    private int failed = 0;

    Checks(String title) {
        this.title = title;
    }

    void due(String call, long got, long want) {
        isTrue(call + " answered " + got + ", due is " + want, got == want);
    }

    void isTrue(String what, boolean holds) {
        if (holds) {
            passed++;
            return;
        }
        failed++;
        if (failed <= 20) System.out.println(title + ": " + what);
    }

    /** Ends the program: with 1, if anything was not as due. */
    void end() {
        System.out.println(title + ": " + passed + " passed, " + failed + " failed");
        System.exit(failed == 0 && passed > 0 ? 0 : 1);
    }
}
