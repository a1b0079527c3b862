/**
 * A rack in which every sort of thing stands, some of them twice: what a refused call would spoil shows in it, either
 * at once or as soon as the things are changed by their other boxes.
 */
final class Stand {
    static final int TRUTHS = 0, CHARS = 2, INTS = 4, LONGS = 5, FLOATS = 6, DOUBLES = 7;
    static final int SHEET = 8, ANY_BANK = 9, NOISE_BANK = 10;
    static final int TONE = 11, BELL = 12, CHIME = 13, NOISE = 14, WIND = 15, DRUM = 16;
    static final int NO_INTS = 17, NO_LINES = 18, NO_PLACES = 19;
    static final int SAME_INTS = 20, SAME_SHEET = 21, SAME_BANK = 22, NOTHING = 23;

    /** The lines of SHEET: 0 has 2 ints, 1 is the row of INTS (3 ints), 2 is NOTHING. */
    static final int OWN_LINE = 0, LAID_LINE = 1, NO_LINE = 2;

    private Stand() {
    }

    static PatchAsks rack() {
        PatchAsks x = new PatchAsks();
        x.curve(NOTHING, 0, -1);
        curves(x);
        sheets(x);
        voicesAndBanks(x);
        x.ask(CHIME, 3);
        return x;
    }

    /** The same rack, behind its 40th voice. */
    static PatchAsks full() {
        PatchAsks x = rack();
        for (int number = 6; number < 40; number++) x.voice(NOTHING, 0);
        x.clear(NOTHING);
        return x;
    }

    // In floats and doubles number 0 is 1.5, 1 is -0.0, 2 is endless.
    private static void curves(PatchAsks x) {
        for (int lane = 0; lane < 8; lane++) {
            x.curve(lane, lane, 3);
            for (int i = 0; i < 3; i++) x.write(lane, lane, i, i + 1);
        }
        x.write(FLOATS, 6, 0, 0x3fc00000L);
        x.write(FLOATS, 6, 1, 0x80000000L);
        x.write(FLOATS, 6, 2, 0x7f800000L);
        x.write(DOUBLES, 7, 0, 0x3ff8000000000000L);
        x.write(DOUBLES, 7, 1, 0x8000000000000000L);
        x.write(DOUBLES, 7, 2, 0x7ff0000000000000L);
        x.curve(NO_INTS, 4, 0);
        x.share(INTS, SAME_INTS);
    }

    private static void sheets(PatchAsks x) {
        x.sheet(SHEET, 3, 2);
        x.rule(SHEET, OWN_LINE, 1, 5);
        x.lay(SHEET, LAID_LINE, INTS);
        x.lay(SHEET, NO_LINE, NOTHING);
        x.sheet(NO_LINES, 0, 0);
        x.share(SHEET, SAME_SHEET);
    }

    private static void voicesAndBanks(PatchAsks x) {
        for (int kind = 0; kind < 6; kind++) {
            x.voice(TONE + kind, kind);
            x.turn(TONE + kind, kind + 1);
        }
        x.raise(CHIME, 1, 70);
        x.raise(DRUM, 2, 9);
        x.arm(TONE, true);
        x.bank(ANY_BANK, 6, 2);
        x.set(ANY_BANK, 0, BELL);
        x.bank(NOISE_BANK, 3, 2);
        x.set(NOISE_BANK, 1, DRUM);
        x.bank(NO_PLACES, 6, 0);
        x.share(ANY_BANK, SAME_BANK);
    }

    /** Changes all that stands here, box by box, and tells what was seen of it on the way. */
    static long changedAll(PatchAsks x) {
        long told = 0;
        for (int lane = 0; lane < 8; lane++) {
            x.write(lane, lane, 0, 0);
            told = 31 * told + x.digest();
        }
        x.write(SAME_INTS, 4, 1, -6);
        told = 31 * told + x.digest();
        x.rule(SAME_SHEET, OWN_LINE, 0, 77);
        told = 31 * told + x.digest();
        x.rule(SAME_SHEET, LAID_LINE, 2, 78);
        told = 31 * told + x.digest();
        x.set(SAME_BANK, 1, WIND);
        told = 31 * told + x.digest();
        x.set(NOISE_BANK, 0, NOISE);
        told = 31 * told + x.digest();
        x.take(ANY_BANK, 0, NO_INTS);
        x.turn(NO_INTS, 1000);
        for (int b = TONE; b <= DRUM; b++) told = 31 * told + changedVoice(x, b);
        return told;
    }

    private static long changedVoice(PatchAsks x, int b) {
        long told = x.fail(b);
        x.arm(b, b % 2 == 0);
        x.turn(b, -3);
        told = 31 * told + x.digest();
        x.raise(b, 1, 55);
        x.raise(b, 2, 56);
        return 31 * told + x.digest();
    }
}
