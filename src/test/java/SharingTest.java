/** One thing that several boxes, lines or places have is one thing: what is done by one of them is seen by all. */
public final class SharingTest {
    private static final int NULL = -11, TROUBLE = -17, NONE = PatchAsks.NONE;
    private static final Check CHECK = new Check("SharingTest");

    public static void main(String[] args) {
        curveInTwoBoxes();
        sheetInTwoBoxes();
        bankInTwoBoxes();
        voiceInTwoBoxes();
        voiceInBoxesAndPlaces();
        rowInACurveAndLines();
        copyToAndFromALaidRow();
        digestOfALaidRow();
        whatIsMadeIsNew();
        whatIsTakenOrGivenReplaces();
        whatNoBoxHoldsStaysInItsPlace();
        CHECK.end();
    }

    private static void due(String told, long got, long want) {
        CHECK.due(told, got, want);
    }

    private static void dueLine(String told, PatchAsks x, int b, int i, int k, int want) {
        due(told, x.line(b, i, k), 0);
        due(told + ", seen", x.seen(), want);
    }

    private static void dueAsked(String told, PatchAsks x, int b, int what, int want) {
        due(told, x.ask(b, what), 0);
        due(told + ", seen", x.seen(), want);
    }

    private static void curveInTwoBoxes() {
        PatchAsks x = new PatchAsks();
        x.curve(0, 3, 2);
        due("6: share", x.share(0, 1), 3);
        x.write(1, 3, 0, 6);
        CHECK.dueNumbers("12: written by the other box", x, 0, 3, 6, 0);
        x.copy(0, 0, 0, 1, 1);
        CHECK.dueNumbers("13: copied by the one box", x, 1, 3, 6, 6);
    }

    private static void sheetInTwoBoxes() {
        PatchAsks x = new PatchAsks();
        x.sheet(0, 2, 1);
        due("6: share", x.share(0, 1), 8);
        x.rule(1, 0, 0, 6);
        dueLine("18: ruled by the other box", x, 0, 0, 0, 6);
        x.lay(0, 1, 9);
        due("19: laid by the one box", x.line(1, 1, 0), NULL);
    }

    private static void bankInTwoBoxes() {
        PatchAsks x = new PatchAsks();
        x.bank(0, 6, 2);
        due("6: share", x.share(0, 1), 16);
        x.voice(2, 5);
        x.set(1, 1, 2);
        due("20: set by the other box", x.get(0, 1), 0);
        due("22: taken by the one box", x.take(0, 1, 3), 0);
        x.set(0, 1, 9);
        due("20: nothing, set by the one box", x.get(1, 1), NONE);
        due("22: what was taken stays", x.what(3), 25);
    }

    private static void voiceInTwoBoxes() {
        PatchAsks x = new PatchAsks();
        x.voice(0, 1);
        due("6: share", x.share(0, 1), 21);
        due("6: makes no voice", x.about(0), 1);
        x.turn(1, 4);
        dueAsked("26: turned by the other box", x, 0, 4, 1);
        x.raise(1, 1, 9);
        dueAsked("24: raised by the other box", x, 0, 0, 13);
        x.arm(1, true);
        due("27: armed by the other box", x.fail(0), TROUBLE);
        dueAsked("25: one number", x, 1, 5, 0);
    }

    private static void voiceInBoxesAndPlaces() {
        PatchAsks x = new PatchAsks();
        x.voice(0, 4);
        x.bank(1, 4, 2);
        x.bank(2, 3, 1);
        for (int i = 0; i < 2; i++) due("20: place " + i, x.set(1, i, 0), 0);
        due("20: another bank", x.set(2, 0, 0), 0);
        x.take(2, 0, 5);
        x.turn(5, 7);
        x.take(1, 1, 6);
        due("22: one voice", x.level(6, 0), 0);
        due("22: turned by another box", x.seen(), 7);
        dueAsked("22: one number", x, 6, 5, 0);
        due("22: makes no voice", x.about(0), 1);
    }

    private static void rowInACurveAndLines() {
        PatchAsks x = new PatchAsks();
        x.curve(0, 4, 2);
        x.sheet(1, 2, 1);
        x.sheet(2, 1, 1);
        x.lay(1, 0, 0);
        x.lay(1, 1, 0);
        x.lay(2, 0, 0);
        x.rule(2, 0, 1, 5);
        dueLine("19: the other line", x, 1, 0, 1, 5);
        dueLine("19: the other line of that sheet", x, 1, 1, 1, 5);
        CHECK.dueNumbers("19: the curve", x, 0, 4, 0, 5);
        x.lay(1, 0, 9);
        dueLine("19: nothing in one line leaves the others", x, 1, 1, 1, 5);
        x.grow(0, 2);
        x.rule(1, 1, 0, 8);
        CHECK.dueNumbers("14: the grown curve has a row of its own", x, 0, 4, 0, 5);
        dueLine("19: the lines still have one", x, 2, 0, 0, 8);
    }

    private static void copyToAndFromALaidRow() {
        PatchAsks x = new PatchAsks();
        x.curve(0, 4, 3);
        x.curve(1, 4, 3);
        for (int i = 0; i < 3; i++) x.write(1, 4, i, i + 1);
        x.sheet(2, 1, 1);
        x.lay(2, 0, 0);
        x.copy(1, 0, 0, 1, 2);
        dueLine("13: copied into the curve, in its line", x, 2, 0, 2, 2);
        x.rule(2, 0, 0, 77);
        x.copy(0, 0, 1, 2, 1);
        CHECK.dueNumbers("13: copied from the curve, ruled in its line", x, 1, 4, 1, 2, 77);
        due("15: shape of what was ruled", x.shape(0, 0, 11, 7), 0);
        due("15: seen", x.seen(), 11);
    }

    // All other boxes hold nothing.
    private static long digestOf(int boxes, long... numbers) {
        long h = 17;
        for (long number : numbers) h = 31 * h + number;
        for (int b = boxes; b < 24; b++) h = 31 * h - 1;
        return h;
    }

    private static void digestOfALaidRow() {
        PatchAsks x = new PatchAsks();
        x.sheet(0, 3, 1);
        x.curve(1, 4, 2);
        x.lay(0, 0, 1);
        x.lay(0, 2, 1);
        x.write(1, 4, 1, -6);
        due("33: in both lines and the curve", x.digest(), digestOf(2, 8, 3, 2, 0, -6, 1, 0, 2, 0, -6, 4, 2, 0, -6));
        x.curve(1, 4, 16);
        x.lay(0, 0, 1);
        x.lay(0, 1, 9);
        x.lay(0, 2, 9);
        x.clear(1);
        x.rule(0, 0, 15, 3);
        long[] numbers = new long[21];
        numbers[0] = 8;
        numbers[1] = 3;
        numbers[2] = 16;
        numbers[18] = 3;
        numbers[19] = -1;
        numbers[20] = -1;
        due("33: a line of 16 ints that no box holds", x.digest(), digestOf(1, numbers));
    }

    private static void whatIsMadeIsNew() {
        PatchAsks x = Stand.rack();
        int[] made = {Stand.INTS, Stand.SHEET, Stand.ANY_BANK};
        int[] same = {Stand.SAME_INTS, Stand.SAME_SHEET, Stand.SAME_BANK};
        x.curve(made[0], 4, 3);
        x.sheet(made[1], 3, 2);
        x.bank(made[2], 6, 2);
        CHECK.dueNumbers("2: a new curve", x, made[0], 4, 0, 0, 0);
        CHECK.dueNumbers("2: the old one", x, same[0], 4, 1, 2, 3);
        dueLine("3: a new sheet", x, made[1], Stand.OWN_LINE, 1, 0);
        dueLine("3: the old one", x, same[1], Stand.OWN_LINE, 1, 5);
        due("4: a new bank", x.get(made[2], 0), NONE);
        due("4: the old one", x.get(same[2], 0), 1);
        x.share(Stand.BELL, Stand.NOTHING);
        due("5: a new voice", x.voice(Stand.BELL, 1), 6);
        dueAsked("5: has no edits", x, Stand.BELL, 4, 0);
        dueAsked("5: the old one has its own", x, Stand.NOTHING, 4, 1);
        due("5: the bank has the old one", x.get(same[2], 0), 1);
    }

    private static void whatIsTakenOrGivenReplaces() {
        PatchAsks x = Stand.rack();
        due("22: taken over ints", x.take(Stand.ANY_BANK, 0, Stand.INTS), 1);
        due("22: a bell there", x.what(Stand.INTS), 21);
        CHECK.dueNumbers("22: the ints in their other box", x, Stand.SAME_INTS, 4, 1, 2, 3);
        due("6: a sheet over a tone", x.share(Stand.SHEET, Stand.TONE), 8);
        dueLine("6: the sheet there", x, Stand.TONE, Stand.OWN_LINE, 1, 5);
        due("7: cleared", x.clear(Stand.SHEET), 8);
        due("7: the sheet in its other boxes", x.what(Stand.TONE) + x.what(Stand.SAME_SHEET), 16);
    }

    private static void whatNoBoxHoldsStaysInItsPlace() {
        PatchAsks x = new PatchAsks();
        x.bank(0, 0, 1);
        x.voice(1, 2);
        x.raise(1, 1, 30);
        x.arm(1, true);
        x.set(0, 0, 1);
        due("7: cleared", x.clear(1), 22);
        due("21: the voice is there", x.get(0, 0), 0);
        due("22: taken", x.take(0, 0, 2), 0);
        due("22: with its own level", x.level(2, 1), 0);
        due("22: seen", x.seen(), 30);
        due("22: with its trouble", x.fail(2), TROUBLE);
    }
}
