/** The boundary cases of promises 11 to 14 and 16; ShapeEdgesTest has those of 15. A test is named by its sentence. */
public final class CurvesEdgesTest {
    private static final int INDEX = -12, SIZE = -15;
    private static final int OUTSIDE = PatchAsks.OUTSIDE;
    private static final int MOST = Integer.MAX_VALUE;
    private static final Check CHECK = new Check("CurvesEdgesTest");

    public static void main(String[] args) {
        placesOfCurvesAre0ToTheLast();
        copyOfNone();
        copyOfAll();
        copyToTheLastPlace();
        copyAsIfAllWereTakenAhead();
        growTo0To16();
        growKeepsTheFirstAndHasOthers0();
        growMakesANewOne();
        seenIs0AtFirst();
        CHECK.end();
    }

    private static void due(String told, long got, long want) {
        CHECK.due(told, got, want);
    }

    private static void placesOfCurvesAre0ToTheLast() {
        for (int lane = 0; lane < 8; lane++) {
            for (int n : new int[] {1, 2, 16}) {
                PatchAsks x = new PatchAsks();
                x.curve(0, lane, n);
                due("12: place -1", x.write(0, lane, -1, 1), INDEX);
                due("12: place " + n, x.write(0, lane, n, 1), INDEX);
                due("12: the first", x.write(0, lane, 0, 1), 0);
                due("12: the last", x.write(0, lane, n - 1, 1), 0);
                due("11: place -1", x.read(0, lane, -1), INDEX);
                due("11: place " + n, x.read(0, lane, n), INDEX);
                due("11: nothing is seen", x.seen(), 0);
                due("11: the first", x.read(0, lane, 0), 0);
                due("11: seen", x.seen(), 1);
                x.write(0, lane, 0, 0);
                due("11: the last", x.read(0, lane, n - 1), 0);
                due("11: seen", x.seen(), n == 1 ? 0 : 1);
            }
        }
    }

    private static PatchAsks counted(int lane, int n) {
        PatchAsks x = new PatchAsks();
        x.curve(0, lane, n);
        for (int i = 0; i < n; i++) x.write(0, lane, i, i + 1);
        return x;
    }

    private static void copyOfNone() {
        PatchAsks x = counted(4, 3);
        x.curve(1, 4, 2);
        x.curve(2, 4, 0);
        due("13: none, at the first", x.copy(0, 0, 1, 0, 0), 0);
        due("13: none, right behind the last", x.copy(0, 3, 1, 2, 0), 0);
        due("13: none, of none, to none", x.copy(2, 0, 2, 0, 0), 0);
        due("13: none, one farther", x.copy(0, 4, 1, 2, 0), INDEX);
        due("13: none, to one farther", x.copy(0, 3, 1, 3, 0), INDEX);
        due("13: none, from below 0", x.copy(0, -1, 1, 0, 0), INDEX);
        due("13: none, to below 0", x.copy(0, 0, 1, -1, 0), INDEX);
        due("13: -1", x.copy(0, 0, 1, 0, -1), INDEX);
        CHECK.dueNumbers("13: nothing came", x, 1, 4, 0, 0);
    }

    private static void copyOfAll() {
        for (int lane = 1; lane < 8; lane++) {
            PatchAsks x = counted(lane, 16);
            x.curve(1, lane, 16);
            due("13: 17", x.copy(0, 0, 1, 0, 17), INDEX);
            due("13: all 16", x.copy(0, 0, 1, 0, 16), 0);
            CHECK.dueNumbers("13: all of lane " + lane, x, 1, lane, 1, 2, 3, 4, 5, 6, 7, 8, 9, 10, 11, 12, 13, 14, 15, 16);
        }
        PatchAsks x = new PatchAsks();
        x.curve(0, 0, 2);
        x.write(0, 0, 1, 1);
        x.curve(1, 0, 2);
        due("13: truths", x.copy(0, 0, 1, 0, 2), 0);
        CHECK.dueNumbers("13: truths", x, 1, 0, 0, 1);
    }

    private static void copyToTheLastPlace() {
        PatchAsks x = counted(5, 4);
        x.curve(1, 5, 3);
        due("13: the last to the last", x.copy(0, 3, 1, 2, 1), 0);
        CHECK.dueNumbers("13: there", x, 1, 5, 0, 0, 4);
        due("13: two from the last", x.copy(0, 3, 1, 0, 2), INDEX);
        due("13: two to the last", x.copy(0, 0, 1, 2, 2), INDEX);
        due("13: from where n wraps", x.copy(0, MOST, 1, 0, 2), INDEX);
        due("13: to where n wraps", x.copy(0, 0, 1, MOST, 2), INDEX);
        due("13: so many that i wraps", x.copy(0, 1, 1, 0, MOST), INDEX);
        due("13: so many that j wraps", x.copy(0, 0, 1, 1, MOST), INDEX);
        CHECK.dueNumbers("13: nothing more came", x, 1, 5, 0, 0, 4);
    }

    private static void copyAsIfAllWereTakenAhead() {
        PatchAsks x = counted(3, 5);
        due("13: up by one", x.copy(0, 0, 0, 1, 4), 0);
        CHECK.dueNumbers("13: up by one", x, 0, 3, 1, 1, 2, 3, 4);
        x = counted(3, 5);
        due("13: down by one", x.copy(0, 1, 0, 0, 4), 0);
        CHECK.dueNumbers("13: down by one", x, 0, 3, 2, 3, 4, 5, 5);
        x = counted(3, 5);
        due("13: onto itself", x.copy(0, 0, 0, 0, 5), 0);
        CHECK.dueNumbers("13: onto itself", x, 0, 3, 1, 2, 3, 4, 5);
        x.share(0, 1);
        due("13: up by two, by another box", x.copy(0, 0, 1, 2, 3), 0);
        CHECK.dueNumbers("13: up by two", x, 0, 3, 1, 2, 1, 2, 3);
    }

    private static void growTo0To16() {
        for (int lane = 0; lane < 8; lane++) {
            PatchAsks x = new PatchAsks();
            x.curve(0, lane, 1);
            due("14: to -1", x.grow(0, -1), SIZE);
            due("14: to 17", x.grow(0, 17), OUTSIDE);
            due("14: still 1", x.width(0, lane), 1);
            due("14: to 16", x.grow(0, 16), 16);
            due("14: 16", x.width(0, lane), 16);
            due("14: to 0", x.grow(0, 0), 0);
            due("14: 0", x.width(0, lane), 0);
            due("14: its lane", x.what(0), lane);
            due("14: from 0 to 1", x.grow(0, 1), 1);
            CHECK.dueNumbers("14: 1", x, 0, lane, 0);
        }
    }

    private static void growKeepsTheFirstAndHasOthers0() {
        for (int lane = 1; lane < 8; lane++) {
            PatchAsks x = counted(lane, 3);
            x.grow(0, 2);
            CHECK.dueNumbers("14: fewer", x, 0, lane, 1, 2);
            x.grow(0, 4);
            CHECK.dueNumbers("14: what was cut off is 0", x, 0, lane, 1, 2, 0, 0);
            x.grow(0, 16);
            CHECK.dueNumbers("14: most", x, 0, lane, 1, 2, 0, 0, 0, 0, 0, 0, 0, 0, 0, 0, 0, 0, 0, 0);
            x.grow(0, 0);
            x.grow(0, 1);
            CHECK.dueNumbers("14: from none", x, 0, lane, 0);
        }
    }

    private static void growMakesANewOne() {
        PatchAsks x = counted(4, 2);
        x.share(0, 1);
        x.sheet(2, 1, 1);
        x.lay(2, 0, 0);
        due("14: to as many", x.grow(0, 2), 2);
        x.write(0, 4, 0, 9);
        CHECK.dueNumbers("14: the new one", x, 0, 4, 9, 2);
        CHECK.dueNumbers("14: the old one", x, 1, 4, 1, 2);
        x.line(2, 0, 0);
        due("14: the line has the old one", x.seen(), 1);
    }

    private static void seenIs0AtFirst() {
        due("16: at first", new PatchAsks().seen(), 0);
        PatchAsks x = new PatchAsks();
        x.curve(0, 5, 1);
        for (long word : new long[] {Long.MAX_VALUE, Long.MIN_VALUE}) {
            x.write(0, 5, 0, word);
            x.read(0, 5, 0);
            due("16: all of a long", x.seen(), word);
        }
        x.curve(0, 5, 1);
        x.sheet(1, 1, 1);
        x.rule(1, 0, 0, 3);
        x.voice(2, 0);
        x.raise(2, 0, 4);
        due("16: stays where nothing becomes seen", x.seen(), Long.MIN_VALUE);
    }
}
