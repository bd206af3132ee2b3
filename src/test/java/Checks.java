/** Counts the checks of a test and prints those that fail. */
final class Checks {
    private int passed;
    private int failed;

    void equal(String what, long got, long due) {
        holds(what + " answered " + got + ", due is " + due, got == due);
    }

    void holds(String what, boolean holds) {
        if (holds) {
            passed++;
        } else {
            failed++;
            System.out.println(what);
        }
    }

    boolean allPassed() {
        return failed == 0;
    }

    /** Prints the sum and ends the program, with exit code 1 if a check has failed. */
    void end() {
        System.out.println(passed + " checks hold, " + failed + " do not");
        System.exit(failed == 0 && passed > 0 ? 0 : 1);
    }
}
