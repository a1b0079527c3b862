import java.math.BigInteger;
import java.util.Arrays;

/** The boundary cases of promises 29 to 33. A test is named by its sentence. */
public final class ToldEdgesTest {
    private static final int NONE = PatchAsks.NONE, OUTSIDE = PatchAsks.OUTSIDE;
    private static final int LEAST = Integer.MIN_VALUE, MOST = Integer.MAX_VALUE;
    private static final Check CHECK = new Check("ToldEdgesTest");

    public static void main(String[] args) {
        traceHasPlaces0ToTheLast();
        findingIs0BeforeAny();
        findingsTakes1To7();
        aboutTakes0To3();
        aboutCountsFromNoneToAll();
        digestOfNothing();
        digestOfEmptyOnes();
        digestOfAbsentOnes();
        digestOfLeastAndGreatest();
        digestWraps();
        CHECK.end();
    }

    private static void due(String told, long got, long want) {
        CHECK.due(told, got, want);
    }

    private static void traceHasPlaces0ToTheLast() {
        PatchAsks x = new PatchAsks();
        for (int k : new int[] {-1, 0, 99, 100, LEAST, MOST}) due("29: empty, " + k, x.trace(k), NONE);
        x.voice(0, 2);
        x.ask(0, 3);
        for (int k : new int[] {-1, 7, 99, 100, LEAST, MOST}) due("29: " + k, x.trace(k), NONE);
        due("29: the first", x.trace(0), 30);
        due("29: the last", x.trace(6), 10);
        x.ask(0, 1);
        due("29: the only one", x.trace(0), 10);
        due("29: none behind", x.trace(1), NONE);
        due("29: no finding", x.finding(), 0);
    }

    private static void findingIs0BeforeAny() {
        PatchAsks x = new PatchAsks();
        due("30: at first", x.finding(), 0);
        x.curve(24, 0, 0);
        x.curve(0, 8, 0);
        for (int number = 0; number <= 40; number++) x.voice(0, 0);
        due("30: a refusal is none", x.finding(), 0);
        x.read(0, 0, 0);
        due("30: the latest", x.finding(), 3);
        x.read(24, 0, 0);
        x.clear(0);
        due("30: stays", x.finding(), 3);
        x.read(0, 0, 0);
        due("30: the latest", x.finding(), 1);
    }

    private static void findingsTakes1To7() {
        PatchAsks x = new PatchAsks();
        due("31: 0", x.findings(0), OUTSIDE);
        due("31: 8", x.findings(8), OUTSIDE);
        for (int f = 1; f <= 7; f++) due("31: " + f, x.findings(f), 0);
        for (int k = 1; k <= 3; k++) {
            x.fail(0);
            due("31: counted", x.findings(1), k);
        }
        x.voice(0, 0);
        x.arm(0, true);
        x.fail(0);
        due("31: 7", x.findings(7), 1);
        for (int f = 2; f <= 6; f++) due("31: others " + f, x.findings(f), 0);
    }

    private static void aboutTakes0To3() {
        PatchAsks x = new PatchAsks();
        due("32: -1", x.about(-1), OUTSIDE);
        due("32: 0", x.about(0), 0);
        due("32: 3", x.about(3), 0);
        due("32: 4", x.about(4), OUTSIDE);
    }

    private static void aboutCountsFromNoneToAll() {
        PatchAsks x = new PatchAsks();
        for (int b = 0; b < 24; b++) {
            due("32: boxes", x.about(2), b);
            x.voice(b, 0);
            due("32: voices", x.about(0), b + 1);
            x.turn(b, 1);
            due("32: turns", x.about(3), b + 1);
        }
        due("32: all boxes", x.about(2), 24);
        for (int b = 0; b < 24; b++) x.clear(b);
        due("32: no boxes", x.about(2), 0);
        due("32: voices stay", x.about(0), 24);
        due("32: turns stay", x.about(3), 24);
    }

    // The document's sum without a machine's wrap-around: whole numbers of any size, cut to 64 bits at the very end.
    private static long digestOf(long... numbers) {
        BigInteger h = BigInteger.valueOf(17);
        for (long number : numbers) h = h.multiply(BigInteger.valueOf(31)).add(BigInteger.valueOf(number));
        return h.longValue();
    }

    /** Box 0 tells these numbers, all others hold NOTHING. */
    private static long digestOfFirst(long... numbers) {
        long[] all = Arrays.copyOf(numbers, numbers.length + 23);
        Arrays.fill(all, numbers.length, all.length, -1);
        return digestOf(all);
    }

    private static void digestOfNothing() {
        due("33: nothing", new PatchAsks().digest(), digestOfFirst(-1));
        due("33: nothing, worked out apart", new PatchAsks().digest(), 4512299359913520017L);
    }

    private static void digestOfEmptyOnes() {
        PatchAsks x = new PatchAsks();
        for (int lane = 0; lane < 8; lane++) {
            x.curve(0, lane, 0);
            due("33: an empty curve", x.digest(), digestOfFirst(lane, 0));
        }
        x.sheet(0, 0, 8);
        due("33: an empty sheet", x.digest(), digestOfFirst(8, 0));
        x.sheet(0, 2, 0);
        due("33: empty lines", x.digest(), digestOfFirst(8, 2, 0, 0));
        x.bank(0, 6, 0);
        due("33: an empty bank", x.digest(), digestOfFirst(16, 0));
    }

    private static void digestOfAbsentOnes() {
        PatchAsks x = new PatchAsks();
        x.sheet(0, 2, 1);
        x.lay(0, 0, 9);
        due("33: a line that is nothing", x.digest(), digestOfFirst(8, 2, -1, 1, 0));
        x.bank(0, 0, 2);
        due("33: places with nothing", x.digest(), digestOfFirst(10, 2, -1, -1));
        for (int kind = 0; kind < 6; kind++) {
            x.voice(0, kind);
            x.raise(0, 0, 4);
            x.raise(0, 1, 5);
            x.raise(0, 2, 6);
            int own = kind == 1 || kind == 2 ? 5 : 0;
            int skin = kind == 5 ? 6 : 0;
            due("33: a voice of kind " + kind, x.digest(), digestOfFirst(20 + kind, kind, 4, own, skin, 0, 0));
        }
    }

    private static void digestOfLeastAndGreatest() {
        PatchAsks x = new PatchAsks();
        x.curve(0, 5, 2);
        x.write(0, 5, 0, Long.MIN_VALUE);
        x.write(0, 5, 1, Long.MAX_VALUE);
        due("33: longs", x.digest(), digestOfFirst(5, 2, Long.MIN_VALUE, Long.MAX_VALUE));
        x.curve(0, 6, 2);
        x.write(0, 6, 0, 0x80000000L);
        x.write(0, 6, 1, 0xff800000L);
        due("33: floats below 0", x.digest(), digestOfFirst(6, 2, LEAST, -8388608));
        x.curve(0, 7, 1);
        x.write(0, 7, 0, Long.MIN_VALUE);
        due("33: -0.0", x.digest(), digestOfFirst(7, 1, Long.MIN_VALUE));
        x.curve(0, 2, 1);
        x.write(0, 2, 0, -1);
        due("33: a char", x.digest(), digestOfFirst(2, 1, 65535));
        x.sheet(0, 1, 2);
        x.rule(0, 0, 0, LEAST);
        x.rule(0, 0, 1, MOST);
        due("33: ints of a line", x.digest(), digestOfFirst(8, 1, 2, LEAST, MOST));
        x.voice(0, 1);
        x.raise(0, 0, MOST);
        x.turn(0, 1);
        x.arm(0, true);
        due("33: a level that wrapped", x.digest(), digestOfFirst(21, 0, LEAST, -1, 0, 1, 1));
    }

    private static void digestWraps() {
        PatchAsks x = new PatchAsks();
        long[] numbers = new long[24 * 18];
        for (int b = 0; b < 24; b++) {
            x.curve(b, 5, 16);
            numbers[18 * b] = 5;
            numbers[18 * b + 1] = 16;
            for (int i = 0; i < 16; i++) {
                // Some stay 0, as more than 512 calls would come of writing all.
                if ((b + i) % 2 == 0) continue;
                long word = Long.MAX_VALUE - 1000L * b - i;
                x.write(b, 5, i, word);
                numbers[18 * b + 2 + i] = word;
            }
        }
        due("33: as much as a rack holds", x.digest(), digestOf(numbers));
    }
}
