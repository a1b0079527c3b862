import java.util.function.ToIntFunction;

/** Looks at calls on a Stand that are refused or have a FINDING: at the answer, and that nothing else comes of them. */
final class Refusals {
    static final int NULL = -11, INDEX = -12, CAST = -13, STORE = -14, SIZE = -15, ZERO = -16, TROUBLE = -17;
    static final int UNKNOWN = -101, OUTSIDE = -102, FULL = -104;
    /** What is no BOX, on both sides. */
    static final int[] NO_BOXES = {-1, 24, Integer.MIN_VALUE, Integer.MAX_VALUE};

    private final Check check;

    Refusals(Check check) {
        this.check = check;
    }

    /** A call other than ask() and turn(). */
    void due(String told, ToIntFunction<PatchAsks> call, int want) {
        looked(told, Stand.rack(), Stand.rack(), call, want, false);
    }

    /** A call behind the 40th VOICE. */
    void dueWhenFull(String told, ToIntFunction<PatchAsks> call, int want) {
        looked(told, Stand.full(), Stand.full(), call, want, false);
    }

    /** A call of ask() or turn(), which empties THE TRACE all the same. */
    void dueEmptying(String told, ToIntFunction<PatchAsks> call, int want) {
        looked(told, Stand.rack(), Stand.rack(), call, want, true);
    }

    private void looked(String told, PatchAsks x, PatchAsks same, ToIntFunction<PatchAsks> call, int want, boolean empties) {
        check.due(told, call.applyAsInt(x), want);
        toldFindings(told, x, same, want <= NULL && want >= TROUBLE ? -10 - want : 0);
        toldTrace(told, x, same, empties);
        check.due(told + ", seen()", x.seen(), same.seen());
        check.due(told + ", digest()", x.digest(), same.digest());
        for (int what : new int[] {0, 2, 3}) check.due(told + ", about(" + what + ")", x.about(what), same.about(what));
        check.due(told + ", and all that is changed then", Stand.changedAll(x), Stand.changedAll(same));
        check.due(told + ", and the next voice", x.voice(Stand.NOTHING, 0), same.voice(Stand.NOTHING, 0));
    }

    private void toldFindings(String told, PatchAsks x, PatchAsks same, int finding) {
        check.due(told + ", finding()", x.finding(), finding == 0 ? same.finding() : finding);
        for (int f = 1; f <= 7; f++) {
            check.due(told + ", findings(" + f + ")", x.findings(f), same.findings(f) + (f == finding ? 1 : 0));
        }
    }

    private void toldTrace(String told, PatchAsks x, PatchAsks same, boolean empties) {
        check.due(told + ", about(1)", x.about(1), empties ? 0 : 7);
        for (int k = 0; k <= 7; k++) {
            check.due(told + ", trace(" + k + ")", x.trace(k), empties ? PatchAsks.NONE : same.trace(k));
        }
    }
}
