import java.util.function.ToIntFunction;

/** Promise 16: SEEN becomes what the calls tell that say so; all other calls leave it, done or not. */
public final class SeenTest {
    private static final Check CHECK = new Check("SeenTest");
    // No number that stands on the stand.
    private static final long SHOWN = 123456789012345L;

    public static void main(String[] args) {
        CHECK.due("16: at first", new PatchAsks().seen(), 0);
        thingsLeaveIt();
        curvesLeaveIt();
        sheetsBanksAndVoicesLeaveIt();
        toldLeavesIt();
        becomes();
        CHECK.end();
    }

    private static PatchAsks shown() {
        PatchAsks x = Stand.rack();
        x.write(Stand.LONGS, 5, 2, SHOWN);
        x.read(Stand.LONGS, 5, 2);
        CHECK.due("16: shown", x.seen(), SHOWN);
        return x;
    }

    private static void leaves(String call, ToIntFunction<PatchAsks> made, int answer) {
        PatchAsks x = shown();
        CHECK.due(call, made.applyAsInt(x), answer);
        CHECK.due("16: behind " + call, x.seen(), SHOWN);
        CHECK.due("16: again behind " + call, x.seen(), SHOWN);
    }

    private static void thingsLeaveIt() {
        leaves("curve", x -> x.curve(Stand.NOTHING, 5, 1), 1);
        leaves("sheet", x -> x.sheet(Stand.NOTHING, 1, 1), 1);
        leaves("bank", x -> x.bank(Stand.NOTHING, 6, 1), 1);
        leaves("voice", x -> x.voice(Stand.NOTHING, 0), 6);
        leaves("share", x -> x.share(Stand.TONE, Stand.NOTHING), 20);
        leaves("clear", x -> x.clear(Stand.LONGS), 5);
        leaves("what", x -> x.what(Stand.LONGS), 5);
        leaves("is", x -> x.is(Stand.LONGS, 5), 1);
        leaves("width", x -> x.width(Stand.LONGS, 5), 3);
    }

    private static void curvesLeaveIt() {
        leaves("write", x -> x.write(Stand.LONGS, 5, 2, 8), 0);
        leaves("copy", x -> x.copy(Stand.LONGS, 0, Stand.LONGS, 2, 1), 0);
        leaves("grow", x -> x.grow(Stand.LONGS, 1), 1);
        leaves("read, INDEX", x -> x.read(Stand.LONGS, 5, 3), -12);
        leaves("shape, ZERO", x -> x.shape(Stand.LONGS, 0, 8, 0), -16);
        leaves("shape, OUTSIDE", x -> x.shape(Stand.DOUBLES, 0, 8, -1), PatchAsks.OUTSIDE);
    }

    private static void sheetsBanksAndVoicesLeaveIt() {
        leaves("rule", x -> x.rule(Stand.SHEET, Stand.OWN_LINE, 1, 6), 0);
        leaves("lay", x -> x.lay(Stand.SHEET, 0, Stand.INTS), 0);
        leaves("set", x -> x.set(Stand.ANY_BANK, 1, Stand.TONE), 0);
        leaves("get", x -> x.get(Stand.ANY_BANK, 0), 1);
        leaves("take", x -> x.take(Stand.ANY_BANK, 0, Stand.NOTHING), 1);
        leaves("raise", x -> x.raise(Stand.TONE, 0, 6), 0);
        leaves("arm", x -> x.arm(Stand.TONE, true), 0);
        leaves("fail", x -> x.fail(Stand.TONE), -17);
        leaves("line, NULL", x -> x.line(Stand.SHEET, Stand.NO_LINE, 0), -11);
        leaves("level, CAST", x -> x.level(Stand.TONE, 1), -13);
        leaves("ask, CAST", x -> x.ask(Stand.WIND, 3), -13);
        leaves("turn, NULL", x -> x.turn(Stand.NOTHING, 1), -11);
    }

    private static void toldLeavesIt() {
        leaves("trace", x -> x.trace(0), 30);
        leaves("finding", x -> x.finding(), 5);
        leaves("findings", x -> x.findings(5), 1);
        leaves("about", x -> x.about(0), 6);
        leaves("digest", x -> x.digest() == x.digest() ? 0 : 1, 0);
    }

    private static void becomes(String call, ToIntFunction<PatchAsks> made, long want) {
        PatchAsks x = shown();
        CHECK.due(call, made.applyAsInt(x), 0);
        CHECK.due("16: by " + call, x.seen(), want);
    }

    // What the stand has: longs 1, 2 and SHOWN, 5 in its own line, a chime of level 3 and own level 70, one edit each.
    private static void becomes() {
        becomes("read", x -> x.read(Stand.LONGS, 5, 1), 2);
        becomes("shape", x -> x.shape(Stand.LONGS, 1, 6, -9), -9);
        becomes("line", x -> x.line(Stand.SHEET, Stand.OWN_LINE, 1), 5);
        becomes("level", x -> x.level(Stand.CHIME, 1), 70);
        becomes("ask, COLOUR", x -> x.ask(Stand.CHIME, 0), 73);
        becomes("ask, STRENGTH", x -> x.ask(Stand.CHIME, 1), 3);
        becomes("ask, PLAY", x -> x.ask(Stand.CHIME, 2), 149);
        becomes("ask, HEARD", x -> x.ask(Stand.CHIME, 3), 152);
        becomes("ask, EDITS", x -> x.ask(Stand.CHIME, 4), 1);
        becomes("ask, its number", x -> x.ask(Stand.CHIME, 5), 2);
        becomes("turn", x -> x.turn(Stand.CHIME, -10), -7);
    }
}
