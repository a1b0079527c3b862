import java.util.Random;

/** Promise 15: what shape() makes of a number, by examples of the document's words and beside Java's own numbers. */
public final class ShapeTest {
    private static final int NULL = -11, INDEX = -12, CAST = -13, ZERO = -16;
    private static final double INF = Double.POSITIVE_INFINITY;
    private static final Check CHECK = new Check("ShapeTest");

    public static void main(String[] args) {
        wholes();
        reals();
        asWholes();
        left();
        longLeft();
        refused();
        found();
        besideJava();
        CHECK.end();
    }

    private static void due(String call, long got, long want) {
        CHECK.due("15: " + call, got, want);
    }

    private static void whole(int lane, long x, int way, long y, long want) {
        PatchAsks p = new PatchAsks();
        p.curve(0, lane, 2);
        p.write(0, lane, 1, x);
        due("way " + way + " of " + x + ", " + y, p.shape(0, 1, way, y), 0);
        due("way " + way + " of " + x + ", " + y + " in lane " + lane, p.seen(), want);
        p.read(0, lane, 1);
        due("the number itself stays", p.seen(), x);
    }

    private static void wholes() {
        int least = Integer.MIN_VALUE;
        for (int lane = 4; lane <= 5; lane++) {
            whole(lane, -7, 0, 0, 7);
            whole(lane, 7, 0, 0, 7);
            whole(lane, -7, 5, 3, 3);
            whole(lane, -7, 6, 3, -7);
            whole(lane, 3, 5, -7, 3);
            whole(lane, 3, 6, -7, -7);
            whole(lane, -7, 8, 3, -1);
            whole(lane, 7, 8, -3, 1);
            whole(lane, least, 8, -1, 0);
            whole(lane, -7, 9, 0, -7);
            whole(lane, -7, 10, 0, -7);
            whole(lane, -7, 11, 2, -3);
            whole(lane, 7, 11, -2, -3);
        }
        whole(4, least, 0, 0, least);
        whole(4, least, 11, -1, least);
        whole(4, 5, 5, 0x1_0000_0007L, 7);
        whole(4, 5, 6, 0x8000_0000L, least);
        whole(5, least, 0, 0, 1L << 31);
        whole(5, least, 11, -1, 1L << 31);
        whole(5, Long.MIN_VALUE, 0, 0, Long.MIN_VALUE);
        whole(5, Long.MIN_VALUE, 11, -1, Long.MIN_VALUE);
        whole(5, Long.MIN_VALUE, 8, -1, 0);
        whole(5, 5, 5, 0x1_0000_0007L, 0x1_0000_0007L);
        whole(5, 0x1_8000_0001L, 10, 0, least + 1);
        whole(5, 0x1_8000_0001L, 9, 0, 0x1_8000_0001L);
    }

    private static void real(double x, int way, double y, double want) {
        dueWord(7, Double.doubleToRawLongBits(x), way, Double.doubleToRawLongBits(y), Double.doubleToRawLongBits(want));
        float fx = (float) x;
        float fy = (float) y;
        float fwant = (float) want;
        if (fx == x && fy == y && fwant == want) {
            dueWord(6, Float.floatToRawIntBits(fx), way, Float.floatToRawIntBits(fy), Float.floatToRawIntBits(fwant));
        }
    }

    private static void dueWord(int lane, long x, int way, long y, long want) {
        PatchAsks p = new PatchAsks();
        p.curve(0, lane, 1);
        p.write(0, lane, 0, x);
        String call = "way " + way + " of word " + x + ", " + y + " in lane " + lane;
        due(call, p.shape(0, 0, way, y), 0);
        due(call + ", seen", p.seen(), want);
    }

    private static void reals() {
        real(-1.5, 0, 0, 1.5);
        real(-0.0, 0, 0, 0.0);
        real(-INF, 0, 0, INF);
        double[][] rounded = {{1.5, 1, 2, 2}, {2.5, 2, 3, 2}, {3.5, 3, 4, 4}, {0.5, 0, 1, 0}, {0.75, 0, 1, 1},
            {0.25, 0, 1, 0}, {7, 7, 7, 7}, {4194303.5, 4194303, 4194304, 4194304}, {0, 0, 0, 0}, {INF, INF, INF, INF}};
        for (double[] r : rounded) {
            real(r[0], 1, 0, r[1]);
            real(r[0], 2, 0, r[2]);
            real(r[0], 3, 0, r[3]);
            real(-r[0], 1, 0, -r[2]);
            real(-r[0], 2, 0, -r[1]);
            real(-r[0], 3, 0, -r[3]);
        }
        real(3.5, 4, 0, 1);
        real(-INF, 4, 0, -1);
        real(0.0, 4, 0, 0.0);
        real(-0.0, 4, 0, -0.0);
        real(0.0, 5, -0.0, 0.0);
        real(-0.0, 5, 0.0, 0.0);
        real(0.0, 6, -0.0, -0.0);
        real(-0.0, 6, 0.0, -0.0);
        real(-2, 5, -3, -2);
        real(-2, 6, -3, -3);
        real(-INF, 5, INF, INF);
        real(-INF, 6, INF, -INF);
        real(2, 7, -0.0, -2);
        real(-2, 7, 3, 2);
        real(-0.0, 7, INF, 0.0);
    }

    private static void asWhole(double x, long asLong, long asInt) {
        long word = Double.doubleToRawLongBits(x);
        dueWord(7, word, 9, 0, asLong);
        dueWord(7, word, 10, 0, asInt);
        if ((float) x != x) return;
        dueWord(6, Float.floatToRawIntBits((float) x), 9, 0, asLong);
        dueWord(6, Float.floatToRawIntBits((float) x), 10, 0, asInt);
    }

    private static void asWholes() {
        asWhole(2.75, 2, 2);
        asWhole(-2.75, -2, -2);
        asWhole(-0.5, 0, 0);
        asWhole(-0.0, 0, 0);
        asWhole(1e10, 10000000000L, Integer.MAX_VALUE);
        asWhole(-1e10, -10000000000L, Integer.MIN_VALUE);
        asWhole(0x1p31, 1L << 31, Integer.MAX_VALUE);
        asWhole(-0x1p31, -1L << 31, Integer.MIN_VALUE);
        asWhole(0x1p63, Long.MAX_VALUE, Integer.MAX_VALUE);
        asWhole(-0x1p63, Long.MIN_VALUE, Integer.MIN_VALUE);
        asWhole(0x1.fffffep62, 0x7fffff8000000000L, Integer.MAX_VALUE);
        asWhole(INF, Long.MAX_VALUE, Integer.MAX_VALUE);
        asWhole(-INF, Long.MIN_VALUE, Integer.MIN_VALUE);
        asWhole(2147483647.5, 2147483647, 2147483647);
        asWhole(-2147483648.5, -2147483648L, Integer.MIN_VALUE);
    }

    private static void left() {
        real(7.5, 8, 2, 1.5);
        real(-7.5, 8, 2, -1.5);
        real(7.5, 8, -2, 1.5);
        real(6, 8, 2, 0.0);
        real(-6, 8, 2, -0.0);
        real(-0.0, 8, 2, -0.0);
        real(1.5, 8, 2, 1.5);
        real(-7.5, 8, INF, -7.5);
        real(7.5, 8, -INF, 7.5);
        real(0x1p100, 8, 3, 1);
        real(0x1p101, 8, 3, 2);
        real(3 * 0x1p-149, 8, 0x1p-148, 0x1p-149);
    }

    // The farthest that x and y can be apart, so that most is taken away from x on the way.
    private static void longLeft() {
        double[] ys = {Double.MIN_VALUE, 3 * Double.MIN_VALUE, Double.MIN_NORMAL, Math.nextUp(Double.MIN_NORMAL), 1e-300};
        for (double y : ys) real(Double.MAX_VALUE, 8, y, Double.MAX_VALUE % y);
        float[] fys = {Float.MIN_VALUE, 7 * Float.MIN_VALUE, Math.nextUp(Float.MIN_NORMAL), 1e-30f};
        for (float y : fys) {
            dueWord(6, Float.floatToRawIntBits(Float.MAX_VALUE), 8, Float.floatToRawIntBits(y),
                Float.floatToRawIntBits(Float.MAX_VALUE % y));
        }
    }

    private static PatchAsks allSorts() {
        PatchAsks p = new PatchAsks();
        for (int lane = 0; lane < 8; lane++) p.curve(lane, lane, 1);
        p.sheet(8, 1, 1);
        p.bank(9, 0, 1);
        p.voice(10, 0);
        return p;
    }

    private static void refused() {
        PatchAsks p = allSorts();
        for (int b : new int[] {-1, 24, Integer.MIN_VALUE, Integer.MAX_VALUE}) {
            due("no box " + b, p.shape(b, 0, 12, 0), PatchAsks.UNKNOWN);
        }
        due("way below", p.shape(11, 0, -1, 0), PatchAsks.OUTSIDE);
        due("way above", p.shape(11, 0, 12, 0), PatchAsks.OUTSIDE);
        for (int way = 0; way <= 10; way++) {
            boolean takes = way >= 5 && way <= 8;
            due("way " + way + " with no float", p.shape(6, 0, way, 0x7fc00000L), takes ? PatchAsks.OUTSIDE : 0);
            due("way " + way + " with no double", p.shape(7, 0, way, -1), takes ? PatchAsks.OUTSIDE : 0);
            due("no double and no place", p.shape(7, 1, way, -1), takes ? PatchAsks.OUTSIDE : INDEX);
        }
        due("what tells no double tells 0 as a float", p.shape(6, 0, 5, 0x7ff8000000000000L), 0);
        due("nor is a float's a double's", p.shape(7, 0, 5, 0x7fc00000L), 0);
        due("ints take every word", p.shape(4, 0, 5, 0x7fc00000L), 0);
        due("longs take every word", p.shape(5, 0, 5, -1), 0);
    }

    private static void found() {
        PatchAsks p = allSorts();
        for (int way = 0; way <= 11; way++) {
            boolean realsAlone = way >= 1 && way <= 4 || way == 7;
            due("nothing, way " + way, p.shape(11, 9, way, 0), NULL);
            for (int b : new int[] {0, 1, 2, 3, 8, 9, 10}) due(b + ", way " + way, p.shape(b, 9, way, 0), CAST);
            for (int b = 4; b <= 5; b++) due(b + ", way " + way, p.shape(b, 9, way, 0), realsAlone ? CAST : INDEX);
            for (int b = 6; b <= 7; b++) due(b + ", way " + way, p.shape(b, 9, way, 0), way == 11 ? CAST : INDEX);
        }
        due("below 0", p.shape(4, -1, 0, 0), INDEX);
        due("right behind", p.shape(4, 1, 11, 0), INDEX);
        for (int b = 4; b <= 7; b++) due("left by 0 in " + b, p.shape(b, 0, 8, 0), ZERO);
        due("by 0", p.shape(4, 0, 11, 0), ZERO);
        due("by 0", p.shape(5, 0, 11, 0), ZERO);
        due("what is 0 as an int", p.shape(4, 0, 11, 1L << 32), ZERO);
        due("is not as a long", p.shape(5, 0, 11, 1L << 32), 0);
        due("left by -0.0", p.shape(6, 0, 8, 0x80000000L), ZERO);
        due("left by -0.0", p.shape(7, 0, 8, Long.MIN_VALUE), ZERO);
        p.write(6, 6, 0, 0xff800000L);
        p.write(7, 7, 0, 0x7ff0000000000000L);
        due("left of what is endless", p.shape(6, 0, 8, 0x3f800000L), ZERO);
        due("left of what is endless", p.shape(7, 0, 8, 0x3ff0000000000000L), ZERO);
        due("0 is no matter elsewhere", p.shape(7, 0, 5, 0), 0);
    }

    private static void besideJava() {
        Random random = new Random(15);
        for (int lane = 4; lane <= 7; lane++) {
            long[] edges = edges(lane);
            for (long x : edges) for (long y : edges) sameAsJava(lane, x, y);
            for (int k = 0; k < 100_000; k++) sameAsJava(lane, Words.any(random, lane), Words.any(random, lane));
        }
    }

    private static long[] edges(int lane) {
        if (lane < 6) return Words.WHOLES;
        int n = lane == 6 ? Words.FLOATS.length : Words.DOUBLES.length;
        long[] words = new long[2 * n];
        for (int i = 0; i < 2 * n; i++) {
            int sign = i < n ? 1 : -1;
            words[i] = lane == 6 ? Float.floatToRawIntBits(sign * Words.FLOATS[i % n])
                : Double.doubleToRawLongBits(sign * Words.DOUBLES[i % n]);
        }
        return words;
    }

    private static void sameAsJava(int lane, long x, long y) {
        PatchAsks p = new PatchAsks();
        Oracle o = new Oracle();
        p.curve(0, lane, 1);
        o.curve(0, lane, 1);
        due("write of " + x, p.write(0, lane, 0, x), o.write(0, lane, 0, x));
        for (int way = 0; way <= 11; way++) {
            String call = "way " + way + " of word " + x + ", " + y + " in lane " + lane;
            due(call, p.shape(0, 0, way, y), o.shape(0, 0, way, y));
            due(call + ", seen", p.seen(), o.seen());
        }
    }
}
