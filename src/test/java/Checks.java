/** Counts the answers that are not the ones that are due, for the tests of this project. */
final class Checks {
    private int done = 0;
    private int wrong = 0;

    void due(String call, long got, long want) {
        done++;
        if (got != want) {
            wrong++;
            System.out.println(call + " answered " + got + ", due is " + want);
        }
    }

    void due(String call, boolean got, boolean want) {
        due(call, got ? 1 : 0, want ? 1 : 0);
    }

    /** A fraction that a call tells in two numbers. */
    void due(String call, long upper, long lower, long wantUpper, long wantLower) {
        due(call + " (upper)", upper, wantUpper);
        due(call + " (lower)", lower, wantLower);
    }

    void holds(String what, boolean holds) {
        done++;
        if (!holds) {
            wrong++;
            System.out.println("does not hold: " + what);
        }
    }

    boolean failed() {
        return wrong != 0;
    }

    void end() {
        System.out.println(wrong == 0 ? "all " + done + " answers are as due" : wrong + " answers are not as due");
        if (wrong != 0) {
            System.exit(1);
        }
    }
}
