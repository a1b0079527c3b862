/** Promises 11 to 14 and 16: numbers of curves that are read, written, copied and grown, and what is seen. */
public final class CurvesTest {
    private static final int NULL = -11, INDEX = -12, CAST = -13, SIZE = -15;
    private static final int[] NO_BOXES = {-1, 24, Integer.MIN_VALUE, Integer.MAX_VALUE};
    private static final Check CHECK = new Check("CurvesTest");

    public static void main(String[] args) {
        read();
        writeWholes();
        writeReals();
        writeRefused();
        copy();
        copyWithin();
        copyRefused();
        grow();
        growRefused();
        seen();
        CHECK.end();
    }

    private static void due(String call, long got, long want) {
        CHECK.due(call, got, want);
    }

    private static void read() {
        PatchAsks x = new PatchAsks();
        x.curve(0, 4, 2);
        x.write(0, 4, 1, 5);
        due("11: read", x.read(0, 4, 1), 0);
        due("11: seen", x.seen(), 5);
        due("11: no place -1", x.read(0, 4, -1), INDEX);
        due("11: no place 2", x.read(0, 4, 2), INDEX);
        due("11: no place at all", x.read(0, 4, Integer.MIN_VALUE), INDEX);
        due("11: another lane", x.read(0, 5, 9), CAST);
        due("11: nothing", x.read(1, 4, 9), NULL);
        due("11: lane below", x.read(1, -1, 0), PatchAsks.OUTSIDE);
        due("11: lane above", x.read(1, 8, 0), PatchAsks.OUTSIDE);
        for (int b : NO_BOXES) due("11: no box " + b, x.read(b, 8, 9), PatchAsks.UNKNOWN);
        x.sheet(2, 1, 1);
        x.bank(3, 0, 1);
        x.voice(4, 0);
        for (int b = 2; b <= 4; b++) due("11: no curve in " + b, x.read(b, 4, 9), CAST);
        due("11: seen stays", x.seen(), 5);
    }

    private static void written(int lane, long word, long want) {
        PatchAsks x = new PatchAsks();
        x.curve(0, lane, 3);
        due("12: write of lane " + lane, x.write(0, lane, 1, word), 0);
        due("12: seen is not touched", x.seen(), 0);
        due("12: read", x.read(0, lane, 1), 0);
        due("12: " + word + " in lane " + lane, x.seen(), want);
        due("12: the one ahead", x.read(0, lane, 0), 0);
        due("12: is 0", x.seen(), 0);
        due("12: the one behind", x.read(0, lane, 2), 0);
        due("12: is 0", x.seen(), 0);
    }

    private static void writeWholes() {
        for (long word : Words.WHOLES) {
            written(0, word, Math.floorMod(word, 2));
            written(1, word, (byte) word);
            written(2, word, word & 0xffff);
            written(3, word, (short) word);
            written(4, word, (int) word);
            written(5, word, word);
        }
        written(0, -77, 1);
        written(0, 6, 0);
        written(1, 0x180, -128);
        written(2, -1, 65535);
        written(3, 0x18000, -32768);
        written(4, 0x180000000L, Integer.MIN_VALUE);
    }

    private static void writeReals() {
        for (float f : Words.FLOATS) {
            written(6, Float.floatToRawIntBits(f), Float.floatToRawIntBits(f));
            written(6, Float.floatToRawIntBits(-f), Float.floatToRawIntBits(-f));
        }
        written(6, 0x1ff800000L, 0xffffffffff800000L);
        written(6, 0x7ff8000000000000L, 0);
        written(6, 0x80000000L, Integer.MIN_VALUE);
        for (double d : Words.DOUBLES) {
            written(7, Double.doubleToRawLongBits(d), Double.doubleToRawLongBits(d));
            written(7, Double.doubleToRawLongBits(-d), Double.doubleToRawLongBits(-d));
        }
        written(7, 0x7fc00000L, 0x7fc00000L);
        written(7, 0xfff0000000000000L, 0xfff0000000000000L);
    }

    private static void writeRefused() {
        PatchAsks x = new PatchAsks();
        long[] noFloats = {0x7f800001L, 0x7fc00000L, 0x7fffffffL, 0xff800001L, -1L, 0x17fc00000L};
        long[] noDoubles = {0x7ff0000000000001L, 0x7ff8000000000000L, Long.MAX_VALUE, 0xfff0000000000001L, -1L};
        x.curve(6, 6, 1);
        x.curve(7, 7, 1);
        for (long word : noFloats) due("12: no float " + word, x.write(6, 6, 0, word), PatchAsks.OUTSIDE);
        for (long word : noDoubles) due("12: no double " + word, x.write(7, 7, 0, word), PatchAsks.OUTSIDE);
        due("12: refused ahead of NULL", x.write(0, 6, 0, -1), PatchAsks.OUTSIDE);
        due("12: refused ahead of CAST", x.write(6, 7, 0, -1), PatchAsks.OUTSIDE);
        due("12: refused ahead of INDEX", x.write(6, 6, 1, -1), PatchAsks.OUTSIDE);
        due("12: lane below", x.write(0, -1, 0, 0), PatchAsks.OUTSIDE);
        due("12: lane above", x.write(0, 8, 0, 0), PatchAsks.OUTSIDE);
        for (int b : NO_BOXES) due("12: no box " + b, x.write(b, 6, 0, -1), PatchAsks.UNKNOWN);
        due("12: no finding so far", x.finding(), 0);
        due("12: nothing", x.write(0, 4, 9, 0), NULL);
        due("12: another lane", x.write(6, 4, 9, 0), CAST);
        x.sheet(1, 1, 1);
        due("12: a sheet", x.write(1, 4, 0, 0), CAST);
        due("12: no place 1", x.write(6, 6, 1, 0), INDEX);
        due("12: no place -1", x.write(6, 6, -1, 0), INDEX);
    }

    private static PatchAsks counted(int lane, int n) {
        PatchAsks x = new PatchAsks();
        x.curve(0, lane, n);
        for (int i = 0; i < n; i++) x.write(0, lane, i, i + 1);
        return x;
    }

    private static void copy() {
        for (int lane = 1; lane < 8; lane++) {
            PatchAsks x = counted(lane, 5);
            x.curve(1, lane, 4);
            due("13: copy in lane " + lane, x.copy(0, 1, 1, 2, 2), 0);
            CHECK.dueNumbers("13: lane " + lane, x, 1, lane, 0, 0, 2, 3);
            CHECK.dueNumbers("13: from lane " + lane, x, 0, lane, 1, 2, 3, 4, 5);
        }
        PatchAsks x = counted(4, 5);
        x.curve(1, 4, 4);
        due("13: none, from behind the last", x.copy(0, 5, 1, 4, 0), 0);
        due("13: all that fit", x.copy(0, 1, 1, 0, 4), 0);
        CHECK.dueNumbers("13: all", x, 1, 4, 2, 3, 4, 5);
    }

    private static void copyWithin() {
        PatchAsks x = counted(5, 5);
        due("13: up in itself", x.copy(0, 0, 0, 1, 4), 0);
        CHECK.dueNumbers("13: up", x, 0, 5, 1, 1, 2, 3, 4);
        due("13: shared", x.share(0, 7), 5);
        due("13: down in itself", x.copy(7, 1, 0, 0, 4), 0);
        CHECK.dueNumbers("13: down", x, 0, 5, 1, 2, 3, 4, 4);
    }

    private static void copyRefused() {
        PatchAsks x = counted(4, 5);
        x.curve(1, 4, 4);
        x.curve(2, 5, 4);
        x.voice(3, 0);
        x.sheet(4, 2, 2);
        for (int b : NO_BOXES) {
            due("13: from no box " + b, x.copy(b, 0, 9, 0, 1), PatchAsks.UNKNOWN);
            due("13: to no box " + b, x.copy(9, 0, b, 0, 1), PatchAsks.UNKNOWN);
        }
        due("13: from nothing, to a voice", x.copy(9, 0, 3, 0, 1), NULL);
        due("13: from a voice, to nothing", x.copy(3, 0, 9, 0, 1), CAST);
        due("13: from a sheet to itself", x.copy(4, 0, 4, 0, 1), CAST);
        due("13: to longs", x.copy(0, 0, 2, 0, 1), CAST);
        due("13: to a voice, of no place", x.copy(0, 9, 3, 0, 1), CAST);
        due("13: to nothing, of no place", x.copy(0, 9, 9, 0, 1), NULL);
        int[][] no = {{-1, 0, 1}, {0, -1, 1}, {0, 0, -1}, {5, 0, 1}, {0, 4, 1}, {0, 0, 5}, {2, 0, 4}, {6, 0, 0},
            {0, 5, 0}, {-1, 0, 0}, {0, -1, 0}, {1, 1, Integer.MAX_VALUE}, {Integer.MAX_VALUE, 0, Integer.MAX_VALUE},
            {Integer.MIN_VALUE, 0, Integer.MIN_VALUE}, {0, Integer.MAX_VALUE, 1}, {5, 4, Integer.MIN_VALUE}};
        for (int[] a : no) {
            due("13: copy(0, " + a[0] + ", 1, " + a[1] + ", " + a[2] + ")", x.copy(0, a[0], 1, a[1], a[2]), INDEX);
        }
        CHECK.dueNumbers("13: nothing is changed", x, 1, 4, 0, 0, 0, 0);
    }

    private static void grow() {
        for (int lane = 1; lane < 8; lane++) {
            PatchAsks x = counted(lane, 2);
            x.share(0, 1);
            due("14: grow in lane " + lane, x.grow(0, 4), 4);
            due("14: the same lane", x.what(0), lane);
            CHECK.dueNumbers("14: lane " + lane, x, 0, lane, 1, 2, 0, 0);
            CHECK.dueNumbers("14: the old one", x, 1, lane, 1, 2);
            x.write(0, lane, 0, 9);
            due("14: the old one", x.read(1, lane, 0), 0);
            due("14: is another", x.seen(), 1);
        }
        PatchAsks x = counted(3, 4);
        due("14: to fewer", x.grow(0, 3), 3);
        CHECK.dueNumbers("14: fewer", x, 0, 3, 1, 2, 3);
        due("14: to as many", x.grow(0, 3), 3);
        due("14: to most", x.grow(0, 16), 16);
        due("14: to none", x.grow(0, 0), 0);
        CHECK.dueNumbers("14: none", x, 0, 3);
    }

    private static void growRefused() {
        PatchAsks x = counted(3, 4);
        for (int b : NO_BOXES) due("14: no box " + b, x.grow(b, 17), PatchAsks.UNKNOWN);
        due("14: 17", x.grow(0, 17), PatchAsks.OUTSIDE);
        due("14: 17 ahead of NULL", x.grow(1, 17), PatchAsks.OUTSIDE);
        due("14: nothing, and below 0", x.grow(1, -1), NULL);
        x.bank(2, 0, 1);
        x.sheet(3, 1, 1);
        x.voice(4, 0);
        for (int b = 2; b <= 4; b++) due("14: no curve, and below 0", x.grow(b, -1), CAST);
        due("14: below 0", x.grow(0, -1), SIZE);
        due("14: far below 0", x.grow(0, Integer.MIN_VALUE), SIZE);
        CHECK.dueNumbers("14: nothing is changed", x, 0, 3, 1, 2, 3, 4);
    }

    private static void seen() {
        PatchAsks x = new PatchAsks();
        due("16: at first", x.seen(), 0);
        x.curve(0, 5, 1);
        x.write(0, 5, 0, Long.MIN_VALUE);
        due("16: a write shows nothing", x.seen(), 0);
        x.read(0, 5, 0);
        due("16: all of a long", x.seen(), Long.MIN_VALUE);
        due("16: again", x.seen(), Long.MIN_VALUE);
        x.read(0, 5, 1);
        x.read(0, 4, 0);
        x.shape(0, 0, 11, 0);
        x.ask(0, 0);
        x.turn(0, 0);
        x.level(0, 0);
        x.line(0, 0, 0);
        due("16: findings change it not", x.seen(), Long.MIN_VALUE);
        due("16: they were six, of three sorts", x.findings(2) + 10 * x.findings(3) + 100 * x.findings(6), 151);
    }
}
