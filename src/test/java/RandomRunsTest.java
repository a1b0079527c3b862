import java.util.Random;

/** Promises 1 to 33 together: random runs of calls, of which each answer and the state behind it are as the oracle's. */
public final class RandomRunsTest {
    private static final int RUNS = 6000;
    // An object is promised for 512 calls; two more look at the state behind each, or ten behind a BODY.
    private static final int CALLS = 512, CALLS_A_STEP = 3, CALLS_A_TRACE = 8;

    private final Check check;
    private final Random random;
    private PatchAsks x;
    private Oracle o;
    private int calls;

    private RandomRunsTest(Check check, long seed) {
        this.check = check;
        random = new Random(seed);
    }

    public static void main(String[] args) {
        Check check = new Check("RandomRunsTest");
        for (int seed = 1; seed <= RUNS; seed++) new RandomRunsTest(check, seed).run(seed);
        check.end();
    }

    private void run(int seed) {
        x = new PatchAsks();
        o = new Oracle();
        for (int k = 0; calls + CALLS_A_STEP + CALLS_A_TRACE <= CALLS; k++) {
            String at = "run " + seed + ", step " + k + ": ";
            oneCall(at);
            calls += CALLS_A_STEP;
            check.due(at + "seen()", x.seen(), o.seen());
            check.due(at + "digest()", x.digest(), o.digest());
        }
    }

    private int from(int low, int high) {
        return low + random.nextInt(high - low + 1);
    }

    private int box() {
        return random.nextInt(25) == 0 ? from(-2, 26) : from(0, 6);
    }

    private int number(int low, int high) {
        return random.nextInt(40) == 0 ? random.nextInt() : from(low - 1, high + 1);
    }

    // Mostly what the box holds, so that most calls get past the refusals.
    private int laneOf(int b) {
        int told = o.what(b);
        return told >= 0 && told <= 7 && random.nextInt(6) != 0 ? told : number(0, 7);
    }

    private int value() {
        int[] some = {0, 1, -1, 7, Integer.MAX_VALUE, Integer.MIN_VALUE, random.nextInt(), from(-50, 50)};
        return some[random.nextInt(some.length)];
    }

    private void oneCall(String at) {
        int b = box();
        int c = box();
        switch (random.nextInt(12)) {
            case 0, 1, 2 -> making(at, b, c);
            case 3, 4 -> curves(at, b, c);
            case 5 -> shaping(at, b);
            case 6, 7, 8 -> sheetsAndBanks(at, b, c);
            case 9, 10 -> voices(at, b);
            default -> told(at, b);
        }
    }

    private void making(String at, int b, int c) {
        int n = number(0, 16);
        int m = number(0, 8);
        int kind = number(0, 6);
        switch (random.nextInt(9)) {
            case 0, 1 -> {
                int lane = random.nextInt(3) == 0 ? 4 : number(0, 7);
                check.due(at + "curve(" + b + ", " + lane + ", " + n + ")", x.curve(b, lane, n), o.curve(b, lane, n));
            }
            case 2, 3 -> {
                int lines = number(0, 8);
                check.due(at + "sheet(" + b + ", " + lines + ", " + m + ")", x.sheet(b, lines, m), o.sheet(b, lines, m));
            }
            case 4, 5 -> check.due(at + "bank(" + b + ", " + kind + ", " + m + ")", x.bank(b, kind, m), o.bank(b, kind, m));
            case 6, 7 -> check.due(at + "voice(" + b + ", " + kind + ")", x.voice(b, kind), o.voice(b, kind));
            default -> {
                if (random.nextBoolean()) check.due(at + "share(" + b + ", " + c + ")", x.share(b, c), o.share(b, c));
                else check.due(at + "clear(" + b + ")", x.clear(b), o.clear(b));
            }
        }
    }

    private void curves(String at, int b, int c) {
        int lane = laneOf(b);
        int i = number(0, 9);
        long word = Words.any(random, lane);
        switch (random.nextInt(6)) {
            case 0 -> check.due(at + "read(" + b + ", " + lane + ", " + i + ")", x.read(b, lane, i), o.read(b, lane, i));
            case 1, 2, 3 -> check.due(at + "write(" + b + ", " + lane + ", " + i + ", " + word + ")",
                x.write(b, lane, i, word), o.write(b, lane, i, word));
            case 4 -> {
                int j = number(0, 4);
                int k = number(0, 4);
                int n = number(0, 6);
                check.due(at + "copy(" + b + ", " + j + ", " + c + ", " + k + ", " + n + ")",
                    x.copy(b, j, c, k, n), o.copy(b, j, c, k, n));
            }
            default -> {
                int n = number(0, 16);
                check.due(at + "grow(" + b + ", " + n + ")", x.grow(b, n), o.grow(b, n));
            }
        }
    }

    private void shaping(String at, int b) {
        int i = number(0, 4);
        int way = number(0, 11);
        long word = Words.any(random, laneOf(b));
        check.due(at + "shape(" + b + ", " + i + ", " + way + ", " + word + ")",
            x.shape(b, i, way, word), o.shape(b, i, way, word));
    }

    private void sheetsAndBanks(String at, int b, int c) {
        int i = number(0, 6);
        int k = number(0, 6);
        int v = value();
        switch (random.nextInt(6)) {
            case 0 -> check.due(at + "line(" + b + ", " + i + ", " + k + ")", x.line(b, i, k), o.line(b, i, k));
            case 1 -> check.due(at + "rule(" + b + ", " + i + ", " + k + ", " + v + ")",
                x.rule(b, i, k, v), o.rule(b, i, k, v));
            case 2 -> check.due(at + "lay(" + b + ", " + i + ", " + c + ")", x.lay(b, i, c), o.lay(b, i, c));
            case 3 -> check.due(at + "set(" + b + ", " + i + ", " + c + ")", x.set(b, i, c), o.set(b, i, c));
            case 4 -> check.due(at + "get(" + b + ", " + i + ")", x.get(b, i), o.get(b, i));
            default -> check.due(at + "take(" + b + ", " + i + ", " + c + ")", x.take(b, i, c), o.take(b, i, c));
        }
    }

    private void voices(String at, int b) {
        int as = number(0, 2);
        int what = number(0, 5);
        int v = value();
        boolean on = random.nextBoolean();
        switch (random.nextInt(7)) {
            case 0 -> check.due(at + "level(" + b + ", " + as + ")", x.level(b, as), o.level(b, as));
            case 1, 2 -> check.due(at + "raise(" + b + ", " + as + ", " + v + ")", x.raise(b, as, v), o.raise(b, as, v));
            case 3 -> {
                check.due(at + "ask(" + b + ", " + what + ")", x.ask(b, what), o.ask(b, what));
                sameTrace(at);
            }
            case 4 -> {
                check.due(at + "turn(" + b + ", " + v + ")", x.turn(b, v), o.turn(b, v));
                sameTrace(at);
            }
            case 5 -> check.due(at + "arm(" + b + ", " + on + ")", x.arm(b, on), o.arm(b, on));
            default -> check.due(at + "fail(" + b + ")", x.fail(b), o.fail(b));
        }
    }

    private void sameTrace(String at) {
        calls += CALLS_A_TRACE;
        for (int k = 0; k < CALLS_A_TRACE; k++) check.due(at + "trace(" + k + ")", x.trace(k), o.trace(k));
    }

    private void told(String at, int b) {
        int q = from(-1, 33);
        int sort = number(0, 9);
        int f = number(1, 7);
        int what = number(0, 3);
        int k = number(0, 8);
        switch (random.nextInt(8)) {
            case 0 -> check.due(at + "what(" + b + ")", x.what(b), o.what(b));
            case 1, 2 -> check.due(at + "is(" + b + ", " + q + ")", x.is(b, q), o.is(b, q));
            case 3 -> check.due(at + "width(" + b + ", " + sort + ")", x.width(b, sort), o.width(b, sort));
            case 4 -> check.due(at + "finding()", x.finding(), o.finding());
            case 5 -> check.due(at + "findings(" + f + ")", x.findings(f), o.findings(f));
            case 6 -> check.due(at + "about(" + what + ")", x.about(what), o.about(what));
            default -> check.due(at + "trace(" + k + ")", x.trace(k), o.trace(k));
        }
    }
}
