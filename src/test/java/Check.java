/** Counts answers that are as due and those that are not, and prints the latter. */
final class Check {
    private int passed = 0;
    private int failed = 0;
    private String about = "";

    void about(String what) {
        about = what;
    }

    void due(String call, long got, long want) {
        if (got == want) {
            passed++;
            return;
        }
        failed++;
        System.out.println(about + ": " + call + " answered " + got + ", due is " + want);
    }

    void due(String call, boolean got, boolean want) {
        due(call, got ? 1 : 0, want ? 1 : 0);
    }

    int count() {
        return passed + failed;
    }

    boolean isClean() {
        return failed == 0;
    }

    /** Prints the sums, and ends the program with 1 if an answer was wrong. */
    void close() {
        System.out.println("answers: " + passed + " passed, " + failed + " failed");
        if (failed > 0 || passed == 0) {
            System.exit(1);
        }
    }
}
