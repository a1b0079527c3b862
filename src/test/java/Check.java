/** Counts and prints the calls whose answer is not the one that is due. */
final class Check {
    private final String name;
    private int calls;
    private int wrong;

    Check(String name) {
        this.name = name;
    }

    void due(String call, long got, long want) {
        calls++;
        if (got == want) return;
        wrong++;
        // A broken promise may show in thousands of random calls; the first ones tell enough.
        if (wrong <= 50) System.out.println(name + ": " + call + " answered " + got + ", due is " + want);
    }

    void holds(String what, boolean so) {
        due(what, so ? 1 : 0, 1);
    }

    void end() {
        System.out.println(name + ": " + (calls - wrong) + " of " + calls + " answers are as due");
        if (wrong != 0) System.exit(1);
    }
}
