/** The boundary cases of promises 17 to 22. A test is named by its sentence. */
public final class SheetsAndBanksEdgesTest {
    private static final int NULL = -11, INDEX = -12, STORE = -14;
    private static final int NONE = PatchAsks.NONE;
    private static final int LEAST = Integer.MIN_VALUE, MOST = Integer.MAX_VALUE;
    private static final Check CHECK = new Check("SheetsAndBanksEdgesTest");

    public static void main(String[] args) {
        placesOfLinesAre0ToTheLast();
        lineOfNoInts();
        ruleTakesAllInts();
        layOnTheFirstAndLastLine();
        layOfAnEmptyRow();
        layOfALongRow();
        layOfNothing();
        layIsTheVerySame();
        setAtTheFirstAndLastPlace();
        setOfNothing();
        storeTakesTheKindAndThoseUnderIt();
        takeOfNothing();
        takeOverTheBank();
        CHECK.end();
    }

    private static void due(String told, long got, long want) {
        CHECK.due(told, got, want);
    }

    private static void placesOfLinesAre0ToTheLast() {
        PatchAsks x = new PatchAsks();
        x.sheet(0, 8, 8);
        int[][] taken = {{0, 0}, {0, 7}, {7, 0}, {7, 7}};
        for (int[] a : taken) {
            due("18: int " + a[1] + " of line " + a[0], x.rule(0, a[0], a[1], 10 * a[0] + a[1] + 1), 0);
        }
        for (int[] a : taken) {
            due("17: int " + a[1] + " of line " + a[0], x.line(0, a[0], a[1]), 0);
            due("17: seen", x.seen(), 10 * a[0] + a[1] + 1);
        }
        for (int[] a : new int[][] {{-1, 0}, {8, 0}, {0, -1}, {0, 8}, {7, -1}, {7, 8}, {-1, -1}, {8, 8}}) {
            due("17: int " + a[1] + " of line " + a[0], x.line(0, a[0], a[1]), INDEX);
            due("18: int " + a[1] + " of line " + a[0], x.rule(0, a[0], a[1], 1), INDEX);
        }
        due("17: seen stays", x.seen(), 78);
        due("17: findings", x.findings(2), 16);
    }

    private static void lineOfNoInts() {
        PatchAsks x = new PatchAsks();
        x.sheet(0, 1, 0);
        due("17: no int 0", x.line(0, 0, 0), INDEX);
        due("18: no int 0", x.rule(0, 0, 0, 1), INDEX);
        x.sheet(0, 0, 1);
        due("17: no line 0", x.line(0, 0, 0), INDEX);
        due("18: no line 0", x.rule(0, 0, 0, 1), INDEX);
    }

    private static void ruleTakesAllInts() {
        PatchAsks x = new PatchAsks();
        x.sheet(0, 1, 1);
        for (int v : new int[] {MOST, LEAST, -1, 0}) {
            due("18: " + v, x.rule(0, 0, 0, v), 0);
            x.line(0, 0, 0);
            due("17: " + v, x.seen(), v);
        }
    }

    private static void layOnTheFirstAndLastLine() {
        PatchAsks x = new PatchAsks();
        x.sheet(0, 8, 1);
        x.curve(1, 4, 2);
        due("19: line -1", x.lay(0, -1, 1), INDEX);
        due("19: line 8", x.lay(0, 8, 1), INDEX);
        for (int i : new int[] {0, 7}) {
            due("19: line " + i + " has one int", x.line(0, i, 1), INDEX);
            due("19: line " + i, x.lay(0, i, 1), 0);
            due("19: line " + i + " has two", x.line(0, i, 1), 0);
        }
        for (int i = 1; i < 7; i++) due("19: line " + i + " stays", x.line(0, i, 1), INDEX);
    }

    private static void layOfAnEmptyRow() {
        PatchAsks x = new PatchAsks();
        x.sheet(0, 1, 1);
        x.curve(1, 4, 0);
        due("19: an empty row", x.lay(0, 0, 1), 0);
        due("19: is a row", x.line(0, 0, 0), INDEX);
        due("19: nothing in its stead", x.lay(0, 0, 2), 0);
        due("19: is none", x.line(0, 0, 0), NULL);
    }

    private static void layOfALongRow() {
        PatchAsks x = new PatchAsks();
        x.sheet(0, 1, 1);
        x.curve(1, 4, 16);
        due("19: 16 ints", x.lay(0, 0, 1), 0);
        due("18: the last of them", x.rule(0, 0, 15, 6), 0);
        due("18: none behind", x.rule(0, 0, 16, 6), INDEX);
        x.read(1, 4, 15);
        due("19: in the curve", x.seen(), 6);
    }

    private static void layOfNothing() {
        PatchAsks x = new PatchAsks();
        x.sheet(0, 2, 1);
        x.rule(0, 1, 0, 4);
        for (int i : new int[] {0, 1}) {
            due("19: nothing on line " + i, x.lay(0, i, 9), 0);
            due("17: no line " + i, x.line(0, i, 0), NULL);
            due("18: no line " + i, x.rule(0, i, 0, 1), NULL);
        }
        due("19: nothing again", x.lay(0, 0, 9), 0);
        due("19: as many lines", x.width(0, 8), 2);
        x.curve(1, 4, 1);
        due("19: a row in its stead", x.lay(0, 0, 1), 0);
        due("17: is there", x.line(0, 0, 0), 0);
    }

    private static void layIsTheVerySame() {
        PatchAsks x = new PatchAsks();
        x.sheet(0, 2, 1);
        x.sheet(1, 1, 1);
        x.curve(2, 4, 1);
        x.lay(0, 0, 2);
        x.lay(0, 1, 2);
        x.lay(1, 0, 2);
        x.rule(0, 1, 0, LEAST);
        x.line(0, 0, 0);
        due("19: in the other line", x.seen(), LEAST);
        x.write(2, 4, 0, 1L << 32 | 5);
        x.line(1, 0, 0);
        due("19: in the other sheet", x.seen(), 5);
        x.rule(1, 0, 0, -1);
        x.read(2, 4, 0);
        due("19: in the curve", x.seen(), -1);
        x.clear(2);
        x.rule(0, 0, 0, 8);
        x.line(1, 0, 0);
        due("19: where no box holds the curve", x.seen(), 8);
    }

    private static void setAtTheFirstAndLastPlace() {
        PatchAsks x = new PatchAsks();
        x.bank(0, 6, 8);
        x.voice(1, 3);
        due("20: place -1", x.set(0, -1, 1), INDEX);
        due("20: place 8", x.set(0, 8, 1), INDEX);
        for (int i = 0; i < 8; i++) due("21: nothing at " + i, x.get(0, i), NONE);
        due("20: place 0", x.set(0, 0, 1), 0);
        due("20: place 7", x.set(0, 7, 1), 0);
        for (int i = 0; i < 8; i++) due("21: place " + i, x.get(0, i), i == 0 || i == 7 ? 0 : NONE);
        due("21: place -1", x.get(0, -1), INDEX);
        due("21: place 8", x.get(0, 8), INDEX);
        due("22: place -1", x.take(0, -1, 9), INDEX);
        due("22: place 8", x.take(0, 8, 9), INDEX);
        due("22: nothing came", x.what(9), NONE);
        due("22: place 0", x.take(0, 0, 9), 0);
        due("22: place 7", x.take(0, 7, 10), 0);
        due("22: came", x.what(10), 23);
    }

    private static void setOfNothing() {
        for (int kind = 0; kind <= 6; kind++) {
            PatchAsks x = new PatchAsks();
            x.bank(0, kind, 1);
            x.voice(1, kind == 6 ? 0 : kind);
            x.set(0, 0, 1);
            due("21: a voice", x.get(0, 0), 0);
            due("20: nothing", x.set(0, 0, 9), 0);
            due("21: nothing", x.get(0, 0), NONE);
            due("20: nothing again", x.set(0, 0, 9), 0);
        }
    }

    private static void storeTakesTheKindAndThoseUnderIt() {
        String[] takes = {"tbc...", ".bc...", "..c...", "...nwd", "....w.", ".....d", "tbcnwd"};
        for (int of = 0; of <= 6; of++) {
            for (int kind = 0; kind < 6; kind++) {
                PatchAsks x = new PatchAsks();
                x.bank(0, of, 1);
                x.voice(1, kind);
                boolean so = takes[of].charAt(kind) != '.';
                due("20: a " + kind + " in a bank of " + of, x.set(0, 0, 1), so ? 0 : STORE);
                due("21: a " + kind + " in a bank of " + of, x.get(0, 0), so ? 0 : NONE);
            }
        }
    }

    private static void takeOfNothing() {
        PatchAsks x = new PatchAsks();
        x.bank(0, 6, 1);
        x.voice(1, 0);
        due("22: nothing", x.take(0, 0, 1), NONE);
        due("22: is held", x.what(1), NONE);
        due("22: no finding", x.finding(), 0);
    }

    private static void takeOverTheBank() {
        PatchAsks x = new PatchAsks();
        x.bank(0, 6, 1);
        x.voice(1, 5);
        x.set(0, 0, 1);
        due("22: over the bank", x.take(0, 0, 0), 0);
        due("22: is held", x.what(0), 25);
        x.bank(0, 6, 1);
        due("22: nothing over the bank", x.take(0, 0, 0), NONE);
        due("22: is held", x.what(0), NONE);
    }
}
