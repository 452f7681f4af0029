/** Counts answers that are not as due, and tells each. */
final class Checks {
    private int seen, wrong;
    private String about = "";

    void about(String what) {
        about = what;
    }

    void same(String call, long got, long want) {
        seen++;
        if (got == want) return;
        wrong++;
        if (wrong <= 50) System.out.println(about + ": " + call + " answered " + got + ", due is " + want);
    }

    void holds(String what, boolean yes) {
        same(what, yes ? 1 : 0, 1);
    }

    int wrong() {
        return wrong;
    }

    /** Ends the program with 1 if an answer was wrong. */
    void end() {
        System.out.println(seen + " answers looked at, " + wrong + " not as due");
        if (wrong != 0 || seen == 0) System.exit(1);
    }
}
