/** Promises 1 to 10: what is made, held, shared, cleared and told. */
public final class ThingsTest {
    private static final int NULL = -11, CAST = -13, SIZE = -15;
    private static final int[] NO_BOXES = {-1, 24, 25, Integer.MIN_VALUE, Integer.MAX_VALUE};
    private static final Check CHECK = new Check("ThingsTest");

    public static void main(String[] args) {
        newObject();
        curve();
        sheet();
        bank();
        voice();
        share();
        clear();
        what();
        isRows();
        isBanksAndVoices();
        isRefused();
        width();
        CHECK.end();
    }

    private static void due(String call, long got, long want) {
        CHECK.due(call, got, want);
    }

    private static void newObject() {
        PatchAsks x = new PatchAsks();
        for (int b = 0; b < 24; b++) due("1: what(" + b + ")", x.what(b), PatchAsks.NONE);
        due("1: no voices", x.about(0), 0);
        due("1: nothing held", x.about(2), 0);
        due("1: the first voice", x.voice(23, 0), 0);
        PatchAsks other = new PatchAsks();
        due("1: a new object shares nothing with another", other.what(23), PatchAsks.NONE);
        due("1: nor its voices", other.about(0), 0);
    }

    private static void curve() {
        PatchAsks x = new PatchAsks();
        for (int lane = 0; lane < 8; lane++) {
            due("2: curve of lane " + lane, x.curve(lane, lane, 16), 16);
            due("2: its lane", x.what(lane), lane);
            due("2: its width", x.width(lane, lane), 16);
            due("2: first of 0", x.read(lane, lane, 0), 0);
            due("2: is 0", x.seen(), 0);
        }
        due("2: curve of none", x.curve(3, 4, 0), 0);
        due("2: is held", x.what(3), 4);
        due("2: has none", x.width(3, 4), 0);
        for (int b : NO_BOXES) due("2: no box " + b, x.curve(b, 9, 17), PatchAsks.UNKNOWN);
        due("2: lane below", x.curve(0, -1, 1), PatchAsks.OUTSIDE);
        due("2: lane above", x.curve(0, 8, 1), PatchAsks.OUTSIDE);
        due("2: 17", x.curve(0, 0, 17), PatchAsks.OUTSIDE);
        due("2: the lane is refused ahead of SIZE", x.curve(0, 8, -1), PatchAsks.OUTSIDE);
        due("2: no finding so far", x.finding(), 0);
        due("2: below 0", x.curve(3, 0, -1), SIZE);
        due("2: far below 0", x.curve(3, 0, Integer.MIN_VALUE), SIZE);
        due("2: nothing is changed", x.what(3), 4);
        due("2: two findings", x.findings(5), 2);
    }

    private static void sheet() {
        PatchAsks x = new PatchAsks();
        due("3: sheet", x.sheet(0, 8, 8), 8);
        due("3: told", x.what(0), 8);
        due("3: last int", x.line(0, 7, 7), 0);
        due("3: is 0", x.seen(), 0);
        due("3: no int behind it", x.line(0, 7, 8), -12);
        due("3: lines of none", x.sheet(1, 3, 0), 3);
        due("3: no int 0", x.line(1, 2, 0), -12);
        due("3: no lines", x.sheet(2, 0, 5), 0);
        due("3: has none", x.width(2, 8), 0);
        due("3: lines are rows of their own", x.rule(0, 0, 0, 4), 0);
        due("3: line 1", x.line(0, 1, 0), 0);
        due("3: stays 0", x.seen(), 0);
        for (int b : NO_BOXES) due("3: no box " + b, x.sheet(b, 9, 9), PatchAsks.UNKNOWN);
        due("3: 9 lines", x.sheet(0, 9, 1), PatchAsks.OUTSIDE);
        due("3: 9 ints", x.sheet(0, 1, 9), PatchAsks.OUTSIDE);
        due("3: -1 ints", x.sheet(0, 1, -1), PatchAsks.OUTSIDE);
        due("3: m is refused ahead of SIZE", x.sheet(0, -1, -1), PatchAsks.OUTSIDE);
        due("3: m above, too", x.sheet(0, -1, 9), PatchAsks.OUTSIDE);
        due("3: below 0", x.sheet(0, -1, 0), SIZE);
        due("3: nothing is changed", x.width(0, 8), 8);
    }

    private static void bank() {
        PatchAsks x = new PatchAsks();
        for (int kind = 0; kind <= 6; kind++) {
            due("4: bank of kind " + kind, x.bank(kind, kind, 8), 8);
            due("4: told", x.what(kind), 10 + kind);
            due("4: nothing at its last place", x.get(kind, 7), PatchAsks.NONE);
            due("4: no place behind it", x.get(kind, 8), -12);
        }
        due("4: no places", x.bank(0, 5, 0), 0);
        due("4: told", x.what(0), 15);
        for (int b : NO_BOXES) due("4: no box " + b, x.bank(b, 7, 9), PatchAsks.UNKNOWN);
        due("4: kind below", x.bank(0, -1, 1), PatchAsks.OUTSIDE);
        due("4: kind above", x.bank(0, 7, 1), PatchAsks.OUTSIDE);
        due("4: 9 places", x.bank(0, 0, 9), PatchAsks.OUTSIDE);
        due("4: the kind is refused ahead of SIZE", x.bank(0, 7, -1), PatchAsks.OUTSIDE);
        due("4: below 0", x.bank(0, 0, -1), SIZE);
        due("4: nothing is changed", x.what(0), 15);
    }

    private static void voice() {
        PatchAsks x = new PatchAsks();
        for (int number = 0; number < 39; number++) {
            due("5: voice " + number, x.voice(number % 5, number % 6), number);
            due("5: told", x.what(number % 5), 20 + number % 6);
        }
        due("5: kind 6 is none to be made", x.voice(0, 6), PatchAsks.OUTSIDE);
        due("5: kind below", x.voice(0, -1), PatchAsks.OUTSIDE);
        due("5: the last one", x.voice(7, 3), 39);
        due("5: its level is 0", x.level(7, 0), 0);
        due("5: 0", x.seen(), 0);
        due("5: full", x.voice(8, 3), PatchAsks.FULL);
        due("5: nothing is changed", x.what(8), PatchAsks.NONE);
        due("5: 40 are made", x.about(0), 40);
        due("5: the kind is refused ahead of FULL", x.voice(0, 6), PatchAsks.OUTSIDE);
        for (int b : NO_BOXES) due("5: no box " + b, x.voice(b, 6), PatchAsks.UNKNOWN);
        due("5: those that no box holds count", x.clear(7), 23);
        due("5: so it stays full", x.voice(7, 0), PatchAsks.FULL);
        due("5: no finding", x.finding(), 0);
    }

    private static void share() {
        PatchAsks x = new PatchAsks();
        due("6: curve", x.curve(0, 5, 2), 2);
        due("6: share", x.share(0, 23), 5);
        due("6: written here", x.write(0, 5, 1, 77), 0);
        due("6: read there", x.read(23, 5, 1), 0);
        due("6: the same thing", x.seen(), 77);
        due("6: with itself", x.share(0, 0), 5);
        due("6: nothing", x.share(9, 23), PatchAsks.NONE);
        due("6: is held there", x.what(23), PatchAsks.NONE);
        due("6: the other still has it", x.what(0), 5);
        due("6: a bank", x.bank(3, 6, 1), 1);
        due("6: as what tells", x.share(3, 0), 16);
        for (int b : NO_BOXES) {
            due("6: from no box " + b, x.share(b, 0), PatchAsks.UNKNOWN);
            due("6: to no box " + b, x.share(0, b), PatchAsks.UNKNOWN);
        }
        due("6: nothing is changed", x.what(0), 16);
    }

    private static void clear() {
        PatchAsks x = new PatchAsks();
        due("7: nothing", x.clear(0), PatchAsks.NONE);
        due("7: sheet", x.sheet(0, 1, 1), 1);
        due("7: shared", x.share(0, 1), 8);
        due("7: clear", x.clear(0), 8);
        due("7: nothing is held", x.what(0), PatchAsks.NONE);
        due("7: the other box keeps it", x.what(1), 8);
        due("7: bell", x.voice(2, 1), 0);
        due("7: clear", x.clear(2), 21);
        for (int b : NO_BOXES) due("7: no box " + b, x.clear(b), PatchAsks.UNKNOWN);
    }

    private static void what() {
        PatchAsks x = new PatchAsks();
        for (int lane = 0; lane < 8; lane++) {
            x.curve(0, lane, 1);
            due("8: lane " + lane, x.what(0), lane);
        }
        x.sheet(0, 0, 0);
        due("8: sheet", x.what(0), 8);
        for (int kind = 0; kind < 7; kind++) {
            x.bank(0, kind, 1);
            due("8: bank " + kind, x.what(0), 10 + kind);
        }
        for (int kind = 0; kind < 6; kind++) {
            x.voice(0, kind);
            due("8: voice " + kind, x.what(0), 20 + kind);
        }
        due("8: nothing", x.what(1), PatchAsks.NONE);
        for (int b : NO_BOXES) due("8: no box " + b, x.what(b), PatchAsks.UNKNOWN);
        due("8: no finding", x.finding(), 0);
    }

    // Asks for all that a box may hold; which of them are answered by 1 is due as a text of them.
    private static void dueIs(String told, PatchAsks x, String want) {
        StringBuilder got = new StringBuilder();
        for (int q = -1; q <= 33; q++) if (x.is(0, q) == 1) got.append(' ').append(q);
        CHECK.holds("9: " + told + " is" + got + ", due is" + want, got.toString().equals(want));
    }

    private static void isRows() {
        PatchAsks x = new PatchAsks();
        dueIs("nothing", x, "");
        for (int lane = 0; lane < 8; lane++) {
            x.curve(0, lane, 1);
            dueIs("curve " + lane, x, " " + lane);
        }
        x.sheet(0, 1, 1);
        dueIs("sheet", x, " 8");
    }

    private static void isBanksAndVoices() {
        String[] banks = {" 10 16 32", " 10 11 16 32", " 10 11 12 16 32", " 13 16", " 13 14 16", " 13 15 16 32", " 16"};
        PatchAsks x = new PatchAsks();
        for (int kind = 0; kind < 7; kind++) {
            x.bank(0, kind, 1);
            dueIs("bank " + kind, x, banks[kind]);
        }
        String[] voices = {" 20 26 30", " 20 21 26 30", " 20 21 22 26 30", " 23 26", " 23 24 26", " 23 25 26 30"};
        x = new PatchAsks();
        for (int kind = 0; kind < 6; kind++) {
            x.voice(0, kind);
            dueIs("voice " + kind, x, voices[kind]);
        }
    }

    private static void isRefused() {
        PatchAsks x = new PatchAsks();
        int[] no = {-1, 9, 17, 18, 19, 27, 28, 29, 33, Integer.MIN_VALUE, Integer.MAX_VALUE};
        int[] asked = {0, 1, 2, 3, 4, 5, 6, 7, 8, 10, 11, 12, 13, 14, 15, 16, 20, 21, 22, 23, 24, 25, 26, 30, 31, 32};
        for (int q : no) due("9: is(0, " + q + ")", x.is(0, q), PatchAsks.OUTSIDE);
        for (int q : asked) due("9: is(0, " + q + ")", x.is(0, q), 0);
        x.voice(0, 2);
        for (int q : no) due("9: is(0, " + q + ") of a voice", x.is(0, q), PatchAsks.OUTSIDE);
        for (int b : NO_BOXES) due("9: no box " + b, x.is(b, 9), PatchAsks.UNKNOWN);
    }

    private static void width() {
        PatchAsks x = new PatchAsks();
        for (int sort = 0; sort <= 9; sort++) due("10: of nothing, " + sort, x.width(0, sort), NULL);
        x.curve(0, 2, 5);
        x.sheet(1, 3, 4);
        x.bank(2, 2, 6);
        x.voice(3, 0);
        for (int sort = 0; sort <= 9; sort++) {
            due("10: of chars, " + sort, x.width(0, sort), sort == 2 ? 5 : CAST);
            due("10: of a sheet, " + sort, x.width(1, sort), sort == 8 ? 3 : CAST);
            due("10: of a bank, " + sort, x.width(2, sort), sort == 9 ? 6 : CAST);
            due("10: of a voice, " + sort, x.width(3, sort), CAST);
        }
        due("10: sort below", x.width(9, -1), PatchAsks.OUTSIDE);
        due("10: sort above", x.width(9, 10), PatchAsks.OUTSIDE);
        for (int b : NO_BOXES) due("10: no box " + b, x.width(b, 10), PatchAsks.UNKNOWN);
    }
}
