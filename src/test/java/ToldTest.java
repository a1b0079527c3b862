/** Promises 29 to 33: the trace, the findings, the counts and the digest. */
public final class ToldTest {
    private static final Check CHECK = new Check("ToldTest");

    public static void main(String[] args) {
        trace();
        finding();
        findings();
        about();
        digestOfRows();
        digestOfBanksAndVoices();
        digestOfAllBoxes();
        CHECK.end();
    }

    private static void due(String call, long got, long want) {
        CHECK.due(call, got, want);
    }

    private static void trace() {
        PatchAsks x = new PatchAsks();
        due("29: at first", x.trace(0), PatchAsks.NONE);
        due("29: below 0", x.trace(-1), PatchAsks.NONE);
        x.voice(0, 4);
        x.ask(0, 1);
        due("29: 0", x.trace(0), 12);
        due("29: 1", x.trace(1), 11);
        due("29: 2", x.trace(2), 10);
        int[] none = {3, 99, 100, -1, Integer.MIN_VALUE, Integer.MAX_VALUE};
        for (int k : none) due("29: " + k, x.trace(k), PatchAsks.NONE);
        x.level(0, 0);
        x.raise(0, 0, 1);
        x.what(0);
        due("29: other calls leave it", x.trace(2), 10);
        x.ask(0, 0);
        due("29: the next ask begins anew", x.trace(0), 3);
        due("29: and is shorter", x.trace(2), PatchAsks.NONE);
        x.turn(0, 1);
        due("29: so does a turn", x.trace(0), 40);
        x.turn(-1, 1);
        due("29: also one that is refused", x.trace(0), PatchAsks.NONE);
        due("29: no finding", x.finding(), 0);
    }

    private static void finding() {
        PatchAsks x = new PatchAsks();
        due("30: at first", x.finding(), 0);
        due("30: NULL", x.grow(0, 1), -11);
        due("30: told", x.finding(), 1);
        x.curve(0, 4, 1);
        due("30: stays behind a call that has none", x.finding(), 1);
        due("30: INDEX", x.read(0, 4, 1), -12);
        due("30: told", x.finding(), 2);
        due("30: CAST", x.read(0, 5, 1), -13);
        due("30: told", x.finding(), 3);
        x.bank(1, 3, 1);
        x.voice(2, 0);
        due("30: STORE", x.set(1, 0, 2), -14);
        due("30: told", x.finding(), 4);
        due("30: SIZE", x.curve(0, 4, -1), -15);
        due("30: told", x.finding(), 5);
        due("30: ZERO", x.shape(0, 0, 11, 0), -16);
        due("30: told", x.finding(), 6);
        x.arm(2, true);
        due("30: TROUBLE", x.fail(2), -17);
        due("30: told", x.finding(), 7);
        due("30: UNKNOWN", x.fail(24), PatchAsks.UNKNOWN);
        due("30: OUTSIDE", x.curve(0, 9, 0), PatchAsks.OUTSIDE);
        due("30: refusals are no findings", x.finding(), 7);
        for (int f = 1; f <= 7; f++) due("31: each once", x.findings(f), 1);
    }

    private static void findings() {
        PatchAsks x = new PatchAsks();
        for (int f = 1; f <= 7; f++) due("31: at first", x.findings(f), 0);
        for (int f : new int[] {0, 8, -1, Integer.MIN_VALUE, Integer.MAX_VALUE}) {
            due("31: findings(" + f + ")", x.findings(f), PatchAsks.OUTSIDE);
        }
        for (int k = 0; k < 5; k++) x.get(0, 0);
        x.sheet(0, -1, 0);
        x.sheet(0, -1, 9);
        due("31: NULL", x.findings(1), 5);
        due("31: SIZE", x.findings(5), 1);
        due("31: INDEX", x.findings(2), 0);
        due("31: another object has none", new PatchAsks().findings(1), 0);
    }

    private static void about() {
        PatchAsks x = new PatchAsks();
        for (int what = 0; what <= 3; what++) due("32: at first", x.about(what), 0);
        for (int what : new int[] {-1, 4, Integer.MIN_VALUE, Integer.MAX_VALUE}) {
            due("32: about(" + what + ")", x.about(what), PatchAsks.OUTSIDE);
        }
        x.voice(0, 2);
        x.voice(0, 1);
        x.voice(23, 6);
        due("32: voices made", x.about(0), 2);
        x.share(0, 1);
        x.curve(5, 0, 0);
        x.bank(23, 0, 0);
        due("32: boxes that hold something", x.about(2), 4);
        x.clear(0);
        x.clear(0);
        x.share(20, 23);
        due("32: boxes that still do", x.about(2), 2);
        due("32: voices made", x.about(0), 2);
        x.ask(1, 3);
        due("32: numbers in the trace", x.about(1), 5);
        x.turn(1, 4);
        x.turn(1, 4);
        x.turn(5, 4);
        x.turn(6, 4);
        due("32: turns done", x.about(3), 2);
        due("32: numbers in the trace", x.about(1), 0);
    }

    // All boxes hold nothing but box 0, whose numbers are given.
    private static long digestOf(long... numbers) {
        long h = 17;
        for (long number : numbers) h = 31 * h + number;
        for (int b = 1; b < 24; b++) h = 31 * h - 1;
        return h;
    }

    private static void digestOfRows() {
        PatchAsks x = new PatchAsks();
        due("33: nothing", x.digest(), digestOf(-1));
        x.curve(0, 5, 3);
        x.write(0, 5, 1, Long.MIN_VALUE);
        x.write(0, 5, 2, -4);
        due("33: a curve", x.digest(), digestOf(5, 3, 0, Long.MIN_VALUE, -4));
        x.curve(0, 0, 0);
        due("33: an empty one", x.digest(), digestOf(0, 0));
        x.curve(0, 6, 1);
        x.write(0, 6, 0, 0x80000000L);
        due("33: a float's word is an int's", x.digest(), digestOf(6, 1, Integer.MIN_VALUE));
        x.curve(0, 2, 1);
        x.write(0, 2, 0, -1);
        due("33: a char", x.digest(), digestOf(2, 1, 65535));
        x.sheet(0, 3, 2);
        x.rule(0, 0, 1, -9);
        x.lay(0, 1, 9);
        due("33: a sheet", x.digest(), digestOf(8, 3, 2, 0, -9, -1, 2, 0, 0));
        x.sheet(0, 2, 0);
        due("33: empty lines", x.digest(), digestOf(8, 2, 0, 0));
    }

    private static void digestOfBanksAndVoices() {
        PatchAsks x = new PatchAsks();
        x.voice(1, 0);
        x.voice(1, 3);
        x.bank(0, 6, 3);
        x.set(0, 2, 1);
        x.clear(1);
        due("33: a bank", x.digest(), digestOf(16, 3, -1, -1, 1));
        x.voice(0, 2);
        x.raise(0, 0, 5);
        x.raise(0, 1, -7);
        due("33: a chime", x.digest(), digestOf(22, 2, 5, -7, 0, 0, 0));
        x.turn(0, 1);
        x.arm(0, true);
        due("33: turned and armed", x.digest(), digestOf(22, 2, 6, -8, 0, 1, 1));
        x.arm(0, false);
        due("33: disarmed", x.digest(), digestOf(22, 2, 6, -8, 0, 1, 0));
        x.voice(0, 5);
        x.raise(0, 2, Integer.MIN_VALUE);
        due("33: a drum", x.digest(), digestOf(25, 3, 0, 0, Integer.MIN_VALUE, 0, 0));
        x.voice(0, 4);
        x.turn(0, -3);
        due("33: a wind", x.digest(), digestOf(24, 4, -3, 0, 0, 1, 0));
        x.fail(0);
        x.ask(0, 2);
        due("33: findings, seen and trace are not in it", x.digest(), digestOf(24, 4, -3, 0, 0, 1, 0));
    }

    private static void digestOfAllBoxes() {
        PatchAsks x = new PatchAsks();
        long h = 17;
        for (int b = 0; b < 24; b++) {
            x.curve(b, b % 8, 1);
            x.write(b, b % 8, 0, b / 12);
            h = 31 * (31 * (31 * h + b % 8) + 1) + b / 12;
        }
        due("33: all boxes, in order", x.digest(), h);
        x.share(3, 20);
        long shared = x.digest();
        x.write(3, 3, 0, 9);
        // The number is the 61st and the 10th from the end: the last of boxes 3 and 20.
        due("33: a shared thing is told in both boxes", x.digest() - shared, 9 * (power(31, 60) + power(31, 9)));
    }

    private static long power(long base, int exponent) {
        long product = 1;
        for (int k = 0; k < exponent; k++) product *= base;
        return product;
    }
}
