/** Counts and prints the calls whose answer is not the one that is due. */
final class Check {
    private final String name;
    private int calls;
    private int wrong;

    Check(String name) {
        this.name = name;
    }

    void due(String call, long got, long want) {
        calls++;
        if (got == want) return;
        wrong++;
        // A broken promise may show in thousands of random calls; the first ones tell enough.
        if (wrong <= 50) System.out.println(name + ": " + call + " answered " + got + ", due is " + want);
    }

    void holds(String what, boolean so) {
        due(what, so ? 1 : 0, 1);
    }

    /** A row of numbers of a lane in a box, with none behind the last. */
    void dueNumbers(String told, PatchAsks x, int b, int lane, long... want) {
        due(told + ", width", x.width(b, lane), want.length);
        for (int i = 0; i < want.length; i++) {
            due(told + ", read " + i, x.read(b, lane, i), 0);
            due(told + ", number " + i, x.seen(), want[i]);
        }
        due(told + ", none behind", x.read(b, lane, want.length), -12);
    }

    /** All of the trace, with none behind the last. */
    void dueTrace(String told, PatchAsks x, int... want) {
        due(told + ", how many bodies", x.about(1), want.length);
        for (int k = 0; k < want.length; k++) due(told + ", body " + k, x.trace(k), want[k]);
        due(told + ", none behind", x.trace(want.length), PatchAsks.NONE);
    }

    void end() {
        System.out.println(name + ": " + (calls - wrong) + " of " + calls + " answers are as due");
        if (wrong != 0) System.exit(1);
    }
}
