/** The boundary cases of promises 23 to 28. A test is named by its sentence. */
public final class VoicesEdgesTest {
    private static final int NULL = -11, CAST = -13, TROUBLE = -17;
    private static final int OUTSIDE = PatchAsks.OUTSIDE;
    private static final int LEAST = Integer.MIN_VALUE, MOST = Integer.MAX_VALUE;
    private static final Check CHECK = new Check("VoicesEdgesTest");

    public static void main(String[] args) {
        levelTakesAs0To2();
        raiseTakesAllInts();
        colourWraps();
        playWraps();
        heardWraps();
        askTakes0To5();
        turnWrapsTheLevel();
        turnWrapsTheOwnLevel();
        turnBy0();
        troubleComesAsOftenAsAsked();
        armTwice();
        CHECK.end();
    }

    private static void due(String told, long got, long want) {
        CHECK.due(told, got, want);
    }

    private static PatchAsks voiceOf(int kind, int level, int ownLevel, int skin) {
        PatchAsks x = new PatchAsks();
        x.voice(0, kind);
        x.raise(0, 0, level);
        x.raise(0, 1, ownLevel);
        x.raise(0, 2, skin);
        return x;
    }

    private static void dueLevel(String told, PatchAsks x, int as, int want) {
        due(told, x.level(0, as), 0);
        due(told + ", seen", x.seen(), want);
    }

    private static void levelTakesAs0To2() {
        PatchAsks bell = voiceOf(1, 5, 6, 7);
        due("23: as -1", bell.level(0, -1), OUTSIDE);
        dueLevel("23: as 0", bell, 0, 5);
        dueLevel("23: as 1", bell, 1, 6);
        due("23: a bell has no skin", bell.level(0, 2), CAST);
        due("23: as 3", bell.level(0, 3), OUTSIDE);
        PatchAsks drum = voiceOf(5, 5, 6, 7);
        dueLevel("23: as 2", drum, 2, 7);
        due("23: a drum has no own level", drum.level(0, 1), CAST);
        due("24: as -1", drum.raise(0, -1, 9), OUTSIDE);
        due("24: as 3", drum.raise(0, 3, 9), OUTSIDE);
        dueLevel("24: the skin stays", drum, 2, 7);
        dueLevel("24: the level stays", drum, 0, 5);
    }

    private static void raiseTakesAllInts() {
        for (int v : new int[] {MOST, LEAST, -1, 0}) {
            dueLevel("24: level", voiceOf(3, v, 0, 0), 0, v);
            dueLevel("24: own level", voiceOf(2, 0, v, 0), 1, v);
            dueLevel("24: skin", voiceOf(5, 0, 0, v), 2, v);
        }
    }

    private static void asked(String told, PatchAsks x, int what, int want) {
        due(told, x.ask(0, what), 0);
        due(told + ", seen", x.seen(), want);
    }

    private static void colourWraps() {
        asked("25: a bell, above", voiceOf(1, MOST, 1, 0), 0, LEAST);
        asked("25: a chime, below", voiceOf(2, LEAST, -1, 0), 0, MOST);
        asked("25: a chime, twice the least", voiceOf(2, LEAST, LEAST, 0), 0, 0);
        asked("25: a wind, below", voiceOf(4, LEAST, 0, 0), 0, MOST);
        asked("25: a tone has its least", voiceOf(0, LEAST, 0, 0), 0, LEAST);
    }

    private static void playWraps() {
        asked("25: a tone, twice", voiceOf(0, 1 << 30, 0, 0), 2, LEAST);
        asked("25: a tone, the last that fits", voiceOf(0, (1 << 30) - 1, 0, 0), 2, MOST - 1);
        asked("25: a tone, twice the least", voiceOf(0, LEAST, 0, 0), 2, 0);
        asked("25: a bell, twice", voiceOf(1, MOST, 1, 0), 2, 0);
        asked("25: a chime, and 3", voiceOf(2, (1 << 30) - 1, 0, 0), 2, LEAST + 1);
        asked("25: a noise, 0 less the least", voiceOf(3, LEAST, 0, 0), 2, LEAST);
        asked("25: a noise, 0 less the greatest", voiceOf(3, MOST, 0, 0), 2, -MOST);
        asked("25: a wind, 0 less what wrapped", voiceOf(4, LEAST, 0, 0), 2, -MOST);
        asked("25: a drum, 7 times 306783378", voiceOf(5, 0, 0, 306783378), 2, 2147483646);
        asked("25: a drum, 7 times one more", voiceOf(5, 0, 0, 306783379), 2, -2147483643);
        asked("25: a drum, 7 times the least", voiceOf(5, 0, 0, LEAST), 2, LEAST);
        asked("25: a drum, both together", voiceOf(5, -2, 0, 306783378), 2, LEAST);
    }

    private static void heardWraps() {
        asked("25: a tone, PLAY and 3", voiceOf(0, (1 << 30) - 1, 0, 0), 3, LEAST + 1);
        asked("25: a tone, the last that fits", voiceOf(0, (1 << 30) - 2, 0, 0), 3, MOST);
        asked("25: a drum, 6 less PLAY", voiceOf(5, MOST, 0, 0), 3, LEAST + 5);
        asked("25: a drum, the last that fits", voiceOf(5, MOST - 6, 0, 0), 3, MOST);
        asked("25: a drum, 6 less the least", voiceOf(5, LEAST, 0, 0), 3, LEAST + 6);
    }

    private static void askTakes0To5() {
        PatchAsks x = voiceOf(2, 5, 7, 0);
        due("25: what -1", x.ask(0, -1), OUTSIDE);
        asked("25: what 0", x, 0, 12);
        asked("25: what 5", x, 5, 0);
        due("25: what 6", x.ask(0, 6), OUTSIDE);
        PatchAsks last = new PatchAsks();
        for (int number = 0; number < 40; number++) last.voice(0, 3);
        asked("25: the last number", last, 5, 39);
    }

    private static void turnWrapsTheLevel() {
        for (int kind = 0; kind < 6; kind++) {
            PatchAsks x = voiceOf(kind, MOST, 0, 0);
            due("26: above", x.turn(0, 1), 0);
            due("26: above, seen", x.seen(), LEAST);
            dueLevel("26: above", x, 0, LEAST);
            due("26: below", x.turn(0, -1), 0);
            due("26: below, seen", x.seen(), MOST);
            x.raise(0, 0, LEAST);
            due("26: by the least", x.turn(0, LEAST), 0);
            due("26: by the least, seen", x.seen(), 0);
            x.turn(0, MOST);
            due("26: by the greatest", x.seen(), MOST);
        }
    }

    private static void turnWrapsTheOwnLevel() {
        for (int kind = 1; kind <= 2; kind++) {
            PatchAsks x = voiceOf(kind, 0, LEAST, 0);
            x.turn(0, 1);
            dueLevel("26: below", x, 1, MOST);
            x.turn(0, -1);
            dueLevel("26: above", x, 1, LEAST);
            x.raise(0, 1, 0);
            x.turn(0, LEAST);
            dueLevel("26: 0 less the least", x, 1, LEAST);
            x.raise(0, 1, -1);
            x.turn(0, LEAST);
            dueLevel("26: -1 less the least", x, 1, MOST);
        }
    }

    private static void turnBy0() {
        PatchAsks x = voiceOf(1, 5, 6, 0);
        due("26: by 0", x.turn(0, 0), 0);
        due("26: the level", x.seen(), 5);
        dueLevel("26: the own level", x, 1, 6);
        asked("26: is an edit", x, 4, 1);
        due("26: and a turn", x.about(3), 1);
    }

    private static void troubleComesAsOftenAsAsked() {
        PatchAsks x = voiceOf(4, 0, 0, 0);
        due("28: none", x.fail(0), NULL);
        due("27: on", x.arm(0, true), 0);
        for (int k = 1; k <= 3; k++) {
            due("28: it comes", x.fail(0), TROUBLE);
            due("31: told", x.findings(7), k);
        }
        due("27: off", x.arm(0, false), 0);
        due("28: none", x.fail(0), NULL);
        due("31: told", x.findings(7), 3);
        due("31: none was told twice", x.findings(1), 2);
    }

    private static void armTwice() {
        PatchAsks x = voiceOf(0, 0, 0, 0);
        due("27: off, as it is", x.arm(0, false), 0);
        due("28: none", x.fail(0), NULL);
        x.arm(0, true);
        due("27: on, as it is", x.arm(0, true), 0);
        x.arm(0, false);
        due("28: none, by one off", x.fail(0), NULL);
    }
}
