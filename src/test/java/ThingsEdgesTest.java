/** The boundary cases of promises 2 to 10. A test is named by its sentence. */
public final class ThingsEdgesTest {
    private static final int INDEX = -12, SIZE = -15;
    private static final int NONE = PatchAsks.NONE, OUTSIDE = PatchAsks.OUTSIDE, FULL = PatchAsks.FULL;
    private static final int LEAST = Integer.MIN_VALUE, MOST = Integer.MAX_VALUE;
    private static final Check CHECK = new Check("ThingsEdgesTest");

    public static void main(String[] args) {
        lanesAre0To7();
        curveHas0To16Numbers();
        curveIsAll0AtFirst();
        sheetHas0To8Lines();
        linesHave0To8Ints();
        bankHas0To8Places();
        banksAreOfKinds0To6();
        voicesAreOfKinds0To5();
        voicesAre40AtMost();
        voicesAreNumberedAsTheyAreMade();
        shareOfNothing();
        shareWithItself();
        clearOfNothing();
        isTakesItsQuestionsAlone();
        nothingCanBeCompared();
        widthOfEmptyOnes();
        widthTakesSorts0To9();
        CHECK.end();
    }

    private static void due(String told, long got, long want) {
        CHECK.due(told, got, want);
    }

    private static void lanesAre0To7() {
        PatchAsks x = new PatchAsks();
        for (int lane : new int[] {-1, 8}) {
            due("2: lane " + lane, x.curve(0, lane, 1), OUTSIDE);
            due("2: holds nothing", x.what(0), NONE);
        }
        for (int lane : new int[] {0, 7}) {
            due("2: lane " + lane, x.curve(0, lane, 1), 1);
            due("2: holds it", x.what(0), lane);
            due("12: lane " + lane, x.write(0, lane, 0, 1), 0);
            due("11: lane " + lane, x.read(0, lane, 0), 0);
            due("11: seen", x.seen(), 1);
        }
    }

    private static void curveHas0To16Numbers() {
        for (int lane = 0; lane < 8; lane++) {
            PatchAsks x = new PatchAsks();
            due("2: -1", x.curve(0, lane, -1), SIZE);
            due("2: holds nothing", x.what(0), NONE);
            due("2: 17", x.curve(0, lane, 17), OUTSIDE);
            due("2: holds nothing", x.what(0), NONE);
            due("2: 0", x.curve(0, lane, 0), 0);
            due("2: holds an empty one", x.what(0), lane);
            due("2: its width", x.width(0, lane), 0);
            due("2: no first number", x.read(0, lane, 0), INDEX);
            due("2: 1", x.curve(0, lane, 1), 1);
            due("2: its width", x.width(0, lane), 1);
            due("2: 16", x.curve(0, lane, 16), 16);
            due("2: its width", x.width(0, lane), 16);
        }
    }

    private static void curveIsAll0AtFirst() {
        for (int lane = 0; lane < 8; lane++) {
            PatchAsks x = new PatchAsks();
            x.curve(0, lane, 16);
            for (int i = 0; i < 16; i++) x.write(0, lane, i, 1);
            x.curve(0, lane, 16);
            CHECK.dueNumbers("2: all 0 in lane " + lane, x, 0, lane, new long[16]);
        }
    }

    private static void sheetHas0To8Lines() {
        PatchAsks x = new PatchAsks();
        due("3: -1 lines", x.sheet(0, -1, 2), SIZE);
        due("3: 9 lines", x.sheet(0, 9, 2), OUTSIDE);
        due("3: holds nothing", x.what(0), NONE);
        due("3: 0 lines", x.sheet(0, 0, 2), 0);
        due("3: holds an empty one", x.what(0), 8);
        due("3: its width", x.width(0, 8), 0);
        due("3: no first line", x.line(0, 0, 0), INDEX);
        due("3: 8 lines", x.sheet(0, 8, 2), 8);
        due("3: its width", x.width(0, 8), 8);
        due("3: its last line", x.line(0, 7, 1), 0);
        due("3: none behind it", x.line(0, 8, 0), INDEX);
    }

    private static void linesHave0To8Ints() {
        PatchAsks x = new PatchAsks();
        due("3: -1 ints", x.sheet(0, 2, -1), OUTSIDE);
        due("3: 9 ints", x.sheet(0, 2, 9), OUTSIDE);
        due("3: holds nothing", x.what(0), NONE);
        due("3: 0 ints", x.sheet(0, 2, 0), 2);
        due("3: no first int", x.line(0, 1, 0), INDEX);
        due("3: 8 ints", x.sheet(0, 8, 8), 8);
        for (int i = 0; i < 8; i++) {
            for (int k = 0; k < 8; k++) {
                due("3: int " + k + " of line " + i, x.line(0, i, k), 0);
                due("3: is 0", x.seen(), 0);
                x.rule(0, i, k, 1);
            }
            due("3: none behind", x.line(0, i, 8), INDEX);
        }
    }

    private static void bankHas0To8Places() {
        for (int kind = 0; kind <= 6; kind++) {
            PatchAsks x = new PatchAsks();
            due("4: -1 places", x.bank(0, kind, -1), SIZE);
            due("4: 9 places", x.bank(0, kind, 9), OUTSIDE);
            due("4: holds nothing", x.what(0), NONE);
            due("4: 0 places", x.bank(0, kind, 0), 0);
            due("4: holds an empty one", x.what(0), 10 + kind);
            due("4: its width", x.width(0, 9), 0);
            due("4: no first place", x.get(0, 0), INDEX);
            due("4: 8 places", x.bank(0, kind, 8), 8);
            due("4: its width", x.width(0, 9), 8);
            for (int i = 0; i < 8; i++) due("4: nothing at first", x.get(0, i), NONE);
            due("4: none behind", x.get(0, 8), INDEX);
        }
    }

    private static void banksAreOfKinds0To6() {
        PatchAsks x = new PatchAsks();
        for (int kind : new int[] {-1, 7}) due("4: kind " + kind, x.bank(0, kind, 1), OUTSIDE);
        due("4: holds nothing", x.what(0), NONE);
        for (int kind : new int[] {0, 6}) {
            due("4: kind " + kind, x.bank(0, kind, 1), 1);
            due("4: holds it", x.what(0), 10 + kind);
        }
    }

    private static void voicesAreOfKinds0To5() {
        PatchAsks x = new PatchAsks();
        for (int kind : new int[] {-1, 6}) due("5: kind " + kind, x.voice(0, kind), OUTSIDE);
        due("5: holds nothing", x.what(0), NONE);
        due("5: none is made", x.about(0), 0);
        due("5: kind 0", x.voice(0, 0), 0);
        due("5: holds it", x.what(0), 20);
        due("5: kind 5", x.voice(0, 5), 1);
        due("5: holds it", x.what(0), 25);
    }

    private static void voicesAre40AtMost() {
        PatchAsks x = new PatchAsks();
        for (int number = 0; number < 40; number++) due("5: voice " + number, x.voice(0, 5), number);
        due("5: made", x.about(0), 40);
        x.ask(0, 5);
        due("5: the 40th is held", x.seen(), 39);
        due("5: the 41st", x.voice(0, 0), FULL);
        due("5: and again", x.voice(1, 0), FULL);
        due("5: the 40th is still held", x.what(0), 25);
        due("5: nothing there", x.what(1), NONE);
        due("5: made", x.about(0), 40);
        x.clear(0);
        due("5: those that no box holds count", x.voice(0, 0), FULL);
        due("5: no finding", x.finding(), 0);
    }

    private static void voicesAreNumberedAsTheyAreMade() {
        PatchAsks x = new PatchAsks();
        due("5: the first", x.voice(3, 1), 0);
        x.voice(3, 6);
        x.voice(24, 0);
        x.clear(3);
        due("5: refused ones have no number", x.voice(9, 4), 1);
        x.share(9, 3);
        due("5: nor have shared ones", x.voice(9, 2), 2);
        x.ask(3, 5);
        due("5: a number stays", x.seen(), 1);
    }

    private static void shareOfNothing() {
        PatchAsks x = new PatchAsks();
        due("6: nothing to nothing", x.share(0, 23), NONE);
        x.curve(23, 4, 1);
        due("6: nothing over a curve", x.share(0, 23), NONE);
        due("6: nothing is there", x.what(23), NONE);
        due("6: no finding", x.finding(), 0);
    }

    private static void shareWithItself() {
        PatchAsks x = new PatchAsks();
        due("6: nothing", x.share(23, 23), NONE);
        x.voice(23, 5);
        due("6: a drum", x.share(23, 23), 25);
        due("6: is held", x.what(23), 25);
    }

    private static void clearOfNothing() {
        PatchAsks x = new PatchAsks();
        due("7: nothing", x.clear(23), NONE);
        x.bank(23, 6, 0);
        due("7: an empty bank", x.clear(23), 16);
        due("7: nothing then", x.clear(23), NONE);
        due("7: no finding", x.finding(), 0);
    }

    // From below the first question to behind the last one; 9, 17 to 19 and 27 to 29 are no questions.
    private static void isTakesItsQuestionsAlone() {
        String taken = " ttttttttt.ttttttt...ttttttt...ttt ";
        PatchAsks x = new PatchAsks();
        for (int q = -1; q <= 33; q++) due("9: q " + q, x.is(0, q), taken.charAt(q + 1) == 't' ? 0 : OUTSIDE);
        due("9: q far below", x.is(0, LEAST), OUTSIDE);
        due("9: q far above", x.is(0, MOST), OUTSIDE);
        due("9: no finding", x.finding(), 0);
    }

    private static void nothingCanBeCompared() {
        PatchAsks x = Stand.rack();
        for (int b = 0; b < 24; b++) due("9: box " + b, x.is(b, 31), 0);
    }

    private static void widthOfEmptyOnes() {
        PatchAsks x = Stand.rack();
        due("10: no numbers", x.width(Stand.NO_INTS, 4), 0);
        due("10: no lines", x.width(Stand.NO_LINES, 8), 0);
        due("10: no places", x.width(Stand.NO_PLACES, 9), 0);
    }

    private static void widthTakesSorts0To9() {
        PatchAsks x = new PatchAsks();
        x.curve(0, 0, 16);
        x.bank(1, 6, 8);
        due("10: sort -1", x.width(0, -1), OUTSIDE);
        due("10: sort 0", x.width(0, 0), 16);
        due("10: sort 9", x.width(1, 9), 8);
        due("10: sort 10", x.width(1, 10), OUTSIDE);
    }
}
