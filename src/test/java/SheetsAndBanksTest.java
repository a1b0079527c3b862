/** Promises 17 to 22: lines of sheets and places of banks. */
public final class SheetsAndBanksTest {
    private static final int NULL = -11, INDEX = -12, CAST = -13, STORE = -14;
    private static final int[] NO_BOXES = {-1, 24, Integer.MIN_VALUE, Integer.MAX_VALUE};
    private static final Check CHECK = new Check("SheetsAndBanksTest");

    public static void main(String[] args) {
        lineAndRule();
        lineAndRuleFound();
        lay();
        layNothing();
        layRefused();
        set();
        setStores();
        setRefused();
        get();
        take();
        CHECK.end();
    }

    private static void due(String call, long got, long want) {
        CHECK.due(call, got, want);
    }

    private static void lineAndRule() {
        PatchAsks x = new PatchAsks();
        x.sheet(0, 2, 3);
        due("18: rule", x.rule(0, 1, 2, Integer.MIN_VALUE), 0);
        due("18: seen stays", x.seen(), 0);
        due("17: line", x.line(0, 1, 2), 0);
        due("17: seen", x.seen(), Integer.MIN_VALUE);
        due("17: another", x.line(0, 1, 1), 0);
        due("17: is 0", x.seen(), 0);
        due("18: rule again", x.rule(0, 1, 2, 9), 0);
        due("18: the same sheet", x.share(0, 5), 8);
        due("17: by another box", x.line(5, 1, 2), 0);
        due("17: seen", x.seen(), 9);
    }

    private static void bothFind(PatchAsks x, int b, int i, int k, int want) {
        due("17: line(" + b + ", " + i + ", " + k + ")", x.line(b, i, k), want);
        due("18: rule(" + b + ", " + i + ", " + k + ", 5)", x.rule(b, i, k, 5), want);
    }

    private static void lineAndRuleFound() {
        PatchAsks x = new PatchAsks();
        x.sheet(0, 2, 3);
        x.curve(1, 4, 2);
        x.bank(2, 6, 2);
        x.voice(3, 0);
        due("17: a line becomes nothing", x.lay(0, 1, 9), 0);
        long ahead = x.digest();
        for (int b : NO_BOXES) bothFind(x, b, 0, 0, PatchAsks.UNKNOWN);
        for (int b = 1; b <= 3; b++) bothFind(x, b, 9, 9, CAST);
        bothFind(x, 9, 9, 9, NULL);
        bothFind(x, 0, 2, 0, INDEX);
        bothFind(x, 0, -1, 0, INDEX);
        bothFind(x, 0, Integer.MAX_VALUE, 0, INDEX);
        bothFind(x, 0, 1, 9, NULL);
        bothFind(x, 0, 0, 3, INDEX);
        bothFind(x, 0, 0, -1, INDEX);
        bothFind(x, 0, 0, Integer.MIN_VALUE, INDEX);
        due("18: nothing is changed", x.digest(), ahead);
    }

    private static void lay() {
        PatchAsks x = new PatchAsks();
        x.sheet(0, 2, 3);
        x.curve(1, 4, 16);
        x.write(1, 4, 15, 6);
        due("19: lay", x.lay(0, 1, 1), 0);
        due("19: seen stays", x.seen(), 0);
        due("19: the row's last", x.line(0, 1, 15), 0);
        due("19: is there", x.seen(), 6);
        x.write(1, 4, 15, 7);
        x.line(0, 1, 15);
        due("19: written in the curve, seen in the line", x.seen(), 7);
        x.rule(0, 1, 0, -8);
        x.read(1, 4, 0);
        due("19: ruled in the line, seen in the curve", x.seen(), -8);
        due("19: in both lines", x.lay(0, 0, 1), 0);
        x.rule(0, 0, 3, 11);
        x.line(0, 1, 3);
        due("19: the very same", x.seen(), 11);
        due("19: a grown curve is another one", x.grow(1, 1), 1);
        x.write(1, 4, 0, 99);
        x.line(0, 1, 0);
        due("19: the line keeps its row", x.seen(), -8);
        due("19: cleared", x.clear(1), 4);
        due("19: the line stays", x.line(0, 1, 15), 0);
    }

    private static void layNothing() {
        PatchAsks x = new PatchAsks();
        x.sheet(0, 2, 3);
        due("19: nothing", x.lay(0, 0, 5), 0);
        due("19: no line", x.line(0, 0, 0), NULL);
        due("19: the other one", x.line(0, 1, 0), 0);
        due("19: as many lines", x.width(0, 8), 2);
        x.curve(1, 4, 0);
        due("19: an empty row is no nothing", x.lay(0, 0, 1), 0);
        due("19: no int in it", x.line(0, 0, 0), INDEX);
    }

    private static void layRefused() {
        PatchAsks x = new PatchAsks();
        x.sheet(0, 2, 3);
        x.curve(1, 4, 2);
        x.curve(2, 5, 2);
        x.voice(3, 0);
        for (int b : NO_BOXES) {
            due("19: on no box " + b, x.lay(b, 0, 2), PatchAsks.UNKNOWN);
            due("19: from no box " + b, x.lay(2, 0, b), PatchAsks.UNKNOWN);
        }
        long ahead = x.digest();
        due("19: on ints", x.lay(1, 0, 1), CAST);
        due("19: on a voice, nothing", x.lay(3, 9, 9), CAST);
        due("19: longs", x.lay(0, 9, 2), CAST);
        due("19: a voice", x.lay(0, 9, 3), CAST);
        due("19: a sheet", x.lay(0, 9, 0), CAST);
        due("19: longs, on nothing", x.lay(9, 0, 2), CAST);
        due("19: ints, on nothing", x.lay(9, 9, 1), NULL);
        due("19: nothing, on nothing", x.lay(9, 0, 8), NULL);
        due("19: no line 2", x.lay(0, 2, 1), INDEX);
        due("19: no line -1", x.lay(0, -1, 9), INDEX);
        due("19: nothing is changed", x.digest(), ahead);
    }

    private static void set() {
        PatchAsks x = new PatchAsks();
        x.bank(0, 0, 3);
        x.voice(1, 0);
        x.voice(2, 1);
        due("20: a tone", x.set(0, 0, 1), 0);
        due("20: a bell", x.set(0, 2, 2), 0);
        due("21: place 0", x.get(0, 0), 0);
        due("21: place 1", x.get(0, 1), PatchAsks.NONE);
        due("21: place 2", x.get(0, 2), 1);
        due("20: nothing", x.set(0, 2, 9), 0);
        due("21: place 2", x.get(0, 2), PatchAsks.NONE);
        due("20: the same one twice", x.set(0, 2, 1), 0);
        due("21: place 2", x.get(0, 2), 0);
        due("20: it is the very voice", x.raise(1, 0, 44), 0);
        x.take(0, 2, 5);
        x.level(5, 0);
        due("20: with its level", x.seen(), 44);
    }

    // Which kinds of voices (columns) a bank of a kind (rows) takes.
    private static void setStores() {
        String[] takes = {"111000", "011000", "001000", "000111", "000010", "000001", "111111"};
        PatchAsks x = new PatchAsks();
        for (int kind = 0; kind < 6; kind++) x.voice(kind, kind);
        for (int of = 0; of < 7; of++) {
            x.bank(6, of, 1);
            for (int kind = 0; kind < 6; kind++) {
                boolean so = takes[of].charAt(kind) == '1';
                int ahead = x.get(6, 0);
                due("20: bank " + of + ", voice " + kind, x.set(6, 0, kind), so ? 0 : STORE);
                due("20: what is there", x.get(6, 0), so ? kind : ahead);
            }
            due("20: nothing is taken by every bank", x.set(6, 0, 9), 0);
        }
    }

    private static void setRefused() {
        PatchAsks x = new PatchAsks();
        x.bank(0, 3, 2);
        x.voice(1, 0);
        x.curve(2, 4, 2);
        for (int b : NO_BOXES) {
            due("20: on no box " + b, x.set(b, 0, 2), PatchAsks.UNKNOWN);
            due("20: from no box " + b, x.set(2, 0, b), PatchAsks.UNKNOWN);
        }
        long ahead = x.digest();
        due("20: on a curve, nothing", x.set(2, 9, 9), CAST);
        due("20: on a voice", x.set(1, 0, 1), CAST);
        due("20: a curve, of no place", x.set(0, 9, 2), CAST);
        due("20: a bank", x.set(0, 0, 0), CAST);
        due("20: a curve, on nothing", x.set(9, 0, 2), CAST);
        due("20: a voice, on nothing", x.set(9, 9, 1), NULL);
        due("20: nothing, on nothing", x.set(9, 0, 8), NULL);
        due("20: no place 2, of another kind", x.set(0, 2, 1), INDEX);
        due("20: no place -1", x.set(0, -1, 9), INDEX);
        due("20: of another kind", x.set(0, 1, 1), STORE);
        due("20: nothing is changed", x.digest(), ahead);
    }

    private static void get() {
        PatchAsks x = new PatchAsks();
        x.bank(0, 6, 2);
        x.voice(1, 5);
        x.voice(2, 4);
        x.set(0, 1, 2);
        due("21: a wind", x.get(0, 1), 1);
        due("21: nothing", x.get(0, 0), PatchAsks.NONE);
        due("21: no place 2", x.get(0, 2), INDEX);
        due("21: no place -1", x.get(0, -1), INDEX);
        due("21: no bank", x.get(1, 9), CAST);
        due("21: no thing", x.get(9, 9), NULL);
        for (int b : NO_BOXES) due("21: no box " + b, x.get(b, 0), PatchAsks.UNKNOWN);
        x.sheet(3, 1, 1);
        due("21: a sheet", x.get(3, 0), CAST);
        due("21: seen stays", x.seen(), 0);
    }

    private static void take() {
        PatchAsks x = new PatchAsks();
        x.bank(0, 6, 2);
        x.voice(1, 5);
        x.voice(2, 4);
        x.set(0, 1, 2);
        due("22: a wind", x.take(0, 1, 7), 1);
        due("22: is held", x.what(7), 24);
        due("22: is still in the bank", x.get(0, 1), 1);
        x.raise(7, 0, 12);
        x.level(2, 0);
        due("22: the very voice", x.seen(), 12);
        due("22: nothing", x.take(0, 0, 7), PatchAsks.NONE);
        due("22: is held", x.what(7), PatchAsks.NONE);
        due("22: no place 2", x.take(0, 2, 1), INDEX);
        due("22: no place -1", x.take(0, -1, 1), INDEX);
        due("22: no bank", x.take(1, 9, 1), CAST);
        due("22: no thing", x.take(9, 9, 1), NULL);
        for (int b : NO_BOXES) {
            due("22: no box " + b, x.take(b, 0, 1), PatchAsks.UNKNOWN);
            due("22: to no box " + b, x.take(1, 9, b), PatchAsks.UNKNOWN);
        }
        due("22: nothing is changed", x.what(1), 25);
        due("22: over the bank itself", x.take(0, 1, 0), 1);
        due("22: is held", x.what(0), 24);
    }
}
