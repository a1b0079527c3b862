/** Promises 23 to 28: levels of voices, their bodies, turns and troubles. */
public final class VoicesTest {
    private static final int NULL = -11, CAST = -13, TROUBLE = -17;
    private static final int TONE = 0, BELL = 1, CHIME = 2, NOISE = 3, WIND = 4, DRUM = 5;
    private static final int[] NO_BOXES = {-1, 24, Integer.MIN_VALUE, Integer.MAX_VALUE};
    private static final Check CHECK = new Check("VoicesTest");

    public static void main(String[] args) {
        levelAndRaise();
        levelAndRaiseRefused();
        askBodies();
        askWraps();
        askPlain();
        askRefused();
        turn();
        turnRefused();
        armAndFail();
        armAndFailRefused();
        CHECK.end();
    }

    private static void due(String call, long got, long want) {
        CHECK.due(call, got, want);
    }

    // A voice of each kind in the box of its kind's number, a curve, a sheet and a bank behind them.
    private static PatchAsks allSorts() {
        PatchAsks x = new PatchAsks();
        for (int kind = 0; kind < 6; kind++) x.voice(kind, kind);
        x.curve(6, 4, 1);
        x.sheet(7, 1, 1);
        x.bank(8, 6, 1);
        return x;
    }

    private static boolean has(int kind, int as) {
        return as == 0 || as == 1 && (kind == BELL || kind == CHIME) || as == 2 && kind == DRUM;
    }

    private static void levelAndRaise() {
        PatchAsks x = allSorts();
        for (int kind = 0; kind < 6; kind++) {
            for (int as = 0; as <= 2; as++) {
                due("24: raise " + as + " of " + kind, x.raise(kind, as, 10 * kind + as + 1), has(kind, as) ? 0 : CAST);
            }
        }
        due("24: seen stays", x.seen(), 0);
        for (int kind = 0; kind < 6; kind++) {
            for (int as = 0; as <= 2; as++) {
                long ahead = x.seen();
                due("23: level " + as + " of " + kind, x.level(kind, as), has(kind, as) ? 0 : CAST);
                due("23: seen", x.seen(), has(kind, as) ? 10 * kind + as + 1 : ahead);
            }
        }
        x.raise(DRUM, 2, Integer.MIN_VALUE);
        x.level(DRUM, 2);
        due("24: the least one", x.seen(), Integer.MIN_VALUE);
        due("23: the same voice", x.share(BELL, 20), 21);
        x.raise(20, 1, 77);
        x.level(BELL, 1);
        due("24: by another box", x.seen(), 77);
    }

    private static void levelAndRaiseRefused() {
        PatchAsks x = allSorts();
        for (int b : NO_BOXES) {
            due("23: no box " + b, x.level(b, 3), PatchAsks.UNKNOWN);
            due("24: no box " + b, x.raise(b, 3, 1), PatchAsks.UNKNOWN);
        }
        for (int as : new int[] {-1, 3, Integer.MIN_VALUE, Integer.MAX_VALUE}) {
            due("23: as " + as, x.level(9, as), PatchAsks.OUTSIDE);
            due("24: as " + as, x.raise(9, as, 1), PatchAsks.OUTSIDE);
        }
        for (int as = 0; as <= 2; as++) {
            due("23: nothing", x.level(9, as), NULL);
            due("24: nothing", x.raise(9, as, 1), NULL);
            for (int b = 6; b <= 8; b++) {
                due("23: no voice", x.level(b, as), CAST);
                due("24: no voice", x.raise(b, as, 1), CAST);
            }
        }
    }

    private static void answered(int kind, int what, int want, int... bodies) {
        PatchAsks x = new PatchAsks();
        x.voice(0, kind);
        x.raise(0, 0, 5);
        x.raise(0, 1, 7);
        x.raise(0, 2, 4);
        String call = "25: ask " + what + " of " + kind;
        long ahead = x.digest();
        due(call, x.ask(0, what), 0);
        due(call + ", seen", x.seen(), want);
        CHECK.dueTrace(call, x, bodies);
        due(call + " changes nothing", x.digest(), ahead);
    }

    private static void askBodies() {
        answered(TONE, 0, 5, 1);
        answered(BELL, 0, 12, 2, 1);
        answered(CHIME, 0, 12, 2, 1);
        answered(NOISE, 0, 5, 1);
        answered(WIND, 0, 4, 3, 1);
        answered(DRUM, 0, 5, 1);
        answered(TONE, 1, 3, 10);
        answered(BELL, 1, 3, 10);
        answered(CHIME, 1, 3, 10);
        answered(NOISE, 1, 6, 11, 10);
        answered(WIND, 1, 7, 12, 11, 10);
        answered(DRUM, 1, 6, 11, 10);
        answered(TONE, 2, 10, 20, 1);
        answered(BELL, 2, 24, 20, 2, 1);
        answered(CHIME, 2, 27, 21, 20, 2, 1, 10);
        answered(NOISE, 2, -5, 22, 1);
        answered(WIND, 2, -4, 22, 3, 1);
        answered(DRUM, 2, 23, 23, 22, 1);
        answered(TONE, 3, 13, 30, 20, 1, 10);
        answered(BELL, 3, 27, 30, 20, 2, 1, 10);
        answered(CHIME, 3, 30, 30, 21, 20, 2, 1, 10, 10);
        answered(DRUM, 3, -17, 31, 11, 10, 23, 22, 1);
    }

    private static void askWraps() {
        PatchAsks x = allSorts();
        x.raise(BELL, 0, Integer.MAX_VALUE);
        x.raise(BELL, 1, 1);
        x.ask(BELL, 0);
        due("25: a colour wraps", x.seen(), Integer.MIN_VALUE);
        x.ask(BELL, 2);
        due("25: twice it wraps", x.seen(), 0);
        x.raise(WIND, 0, Integer.MIN_VALUE);
        x.ask(WIND, 0);
        due("25: less 1 wraps", x.seen(), Integer.MAX_VALUE);
        x.raise(NOISE, 0, Integer.MIN_VALUE);
        x.ask(NOISE, 2);
        due("25: 0 less the least", x.seen(), Integer.MIN_VALUE);
        x.raise(DRUM, 2, 0x20000000);
        x.ask(DRUM, 2);
        due("25: 7 skins wrap", x.seen(), 7 * 0x20000000);
        x.raise(TONE, 0, 0x3fffffff);
        x.ask(TONE, 3);
        due("25: together they wrap", x.seen(), Integer.MIN_VALUE + 1);
    }

    private static void askPlain() {
        PatchAsks x = allSorts();
        for (int kind = 0; kind < 6; kind++) {
            x.turn(kind, 1);
            x.turn(kind, 1);
            due("25: edits of " + kind, x.ask(kind, 4), 0);
            due("25: seen", x.seen(), 2);
            CHECK.dueTrace("25: edits", x);
            x.turn(kind, 1);
            due("25: number of " + kind, x.ask(kind, 5), 0);
            due("25: seen", x.seen(), kind);
            CHECK.dueTrace("25: number", x);
        }
    }

    private static void askRefused() {
        PatchAsks x = allSorts();
        x.ask(CHIME, 3);
        for (int b : NO_BOXES) due("25: no box " + b, x.ask(b, 6), PatchAsks.UNKNOWN);
        CHECK.dueTrace("25: emptied by UNKNOWN", x);
        for (int what : new int[] {-1, 6, Integer.MIN_VALUE, Integer.MAX_VALUE}) {
            x.ask(CHIME, 3);
            due("25: ask " + what, x.ask(9, what), PatchAsks.OUTSIDE);
            CHECK.dueTrace("25: emptied by OUTSIDE", x);
        }
        for (int what = 0; what <= 5; what++) {
            x.ask(CHIME, 3);
            due("25: nothing", x.ask(9, what), NULL);
            CHECK.dueTrace("25: emptied by NULL", x);
            x.ask(CHIME, 3);
            for (int b = 6; b <= 8; b++) due("25: no voice", x.ask(b, what), CAST);
            CHECK.dueTrace("25: emptied by CAST", x);
        }
        x.ask(CHIME, 3);
        long ahead = x.seen();
        due("25: a noise is not heard", x.ask(NOISE, 3), CAST);
        due("25: nor is a wind", x.ask(WIND, 3), CAST);
        due("25: seen stays", x.seen(), ahead);
        CHECK.dueTrace("25: emptied by what is not heard", x);
    }

    private static void turn() {
        for (int kind = 0; kind < 6; kind++) {
            PatchAsks x = allSorts();
            boolean bell = kind == BELL || kind == CHIME;
            x.raise(kind, 0, 5);
            x.raise(kind, 1, 7);
            x.raise(kind, 2, 4);
            due("26: turn " + kind, x.turn(kind, 3), 0);
            due("26: seen", x.seen(), 8);
            if (bell) CHECK.dueTrace("26: bell", x, 41, 40);
            else CHECK.dueTrace("26: others", x, 40);
            x.level(kind, 0);
            due("26: the level", x.seen(), 8);
            if (bell) {
                x.level(kind, 1);
                due("26: the own level", x.seen(), 4);
            }
            x.ask(kind, 4);
            due("26: edits", x.seen(), 1);
            due("26: wraps", x.turn(kind, Integer.MAX_VALUE), 0);
            due("26: seen", x.seen(), Integer.MIN_VALUE + 7);
            due("26: back", x.turn(kind, -4), 0);
            x.ask(kind, 4);
            due("26: edits", x.seen(), 3);
            due("26: turns", x.about(3), 3);
        }
    }

    private static void turnRefused() {
        PatchAsks x = allSorts();
        long ahead = x.digest();
        for (int b : NO_BOXES) {
            x.ask(CHIME, 3);
            due("26: no box " + b, x.turn(b, 1), PatchAsks.UNKNOWN);
            CHECK.dueTrace("26: emptied by UNKNOWN", x);
        }
        for (int b = 6; b <= 9; b++) {
            x.ask(CHIME, 3);
            due("26: no voice in " + b, x.turn(b, 1), b == 9 ? NULL : CAST);
            CHECK.dueTrace("26: emptied by a finding", x);
        }
        due("26: no turn is done", x.about(3), 0);
        due("26: nothing is changed", x.digest(), ahead);
    }

    private static void armAndFail() {
        PatchAsks x = allSorts();
        for (int kind = 0; kind < 6; kind++) {
            due("28: none at first", x.fail(kind), NULL);
            due("27: arm", x.arm(kind, true), 0);
            due("28: it comes", x.fail(kind), TROUBLE);
            due("28: and again", x.fail(kind), TROUBLE);
            due("27: arm again", x.arm(kind, true), 0);
            due("28: it comes", x.fail(kind), TROUBLE);
            due("28: told", x.finding(), 7);
            due("27: disarm", x.arm(kind, false), 0);
            due("28: none", x.fail(kind), NULL);
            due("28: told", x.finding(), 1);
        }
        due("28: troubles", x.findings(7), 18);
        due("28: none", x.findings(1), 12);
        x.share(BELL, 20);
        x.arm(20, true);
        due("28: by another box", x.fail(BELL), TROUBLE);
        due("28: another voice has none", x.fail(TONE), NULL);
    }

    private static void armAndFailRefused() {
        PatchAsks x = allSorts();
        long ahead = x.digest();
        for (int b : NO_BOXES) {
            due("27: no box " + b, x.arm(b, true), PatchAsks.UNKNOWN);
            due("28: no box " + b, x.fail(b), PatchAsks.UNKNOWN);
        }
        for (int b = 6; b <= 9; b++) {
            due("27: no voice in " + b, x.arm(b, true), b == 9 ? NULL : CAST);
            due("28: no voice in " + b, x.fail(b), b == 9 ? NULL : CAST);
        }
        due("27: nothing is changed", x.digest(), ahead);
        x.ask(CHIME, 2);
        x.arm(CHIME, true);
        x.fail(CHIME);
        CHECK.dueTrace("28: the trace stays", x, 21, 20, 2, 1, 10);
    }
}
