/**
 * Each refusal and each FINDING of each call, which comes first where several hold, and that nothing is changed but
 * what finding(), findings() tell, and THE TRACE. Of calls whose text names two that may hold at once, every such two
 * are tried.
 */
public final class RefusalsTest {
    private static final int NULL = Refusals.NULL, INDEX = Refusals.INDEX, CAST = Refusals.CAST;
    private static final int STORE = Refusals.STORE, SIZE = Refusals.SIZE, ZERO = Refusals.ZERO;
    private static final int TROUBLE = Refusals.TROUBLE;
    private static final int UNKNOWN = Refusals.UNKNOWN, OUTSIDE = Refusals.OUTSIDE, FULL = Refusals.FULL;
    private static final int LEAST = Integer.MIN_VALUE, MOST = Integer.MAX_VALUE;
    /** Words that tell no float, and no double: right above what is endless, and the farthest one. */
    private static final long NO_FLOAT = 0x7f800001L, NO_DOUBLE = 0x7ff0000000000001L, NEITHER = -1L;

    private static final Check CHECK = new Check("RefusalsTest");
    private static final Refusals R = new Refusals(CHECK);

    public static void main(String[] args) {
        allStands();
        noSuchBox();
        noSuchSecondBox();
        curve();
        sheet();
        bank();
        voice();
        is();
        width();
        read();
        write();
        copy();
        copyPlaces();
        grow();
        shape();
        shapeWays();
        shapeWords();
        shapeZero();
        lineAndRule();
        lay();
        set();
        getAndTake();
        levelAndRaise();
        ask();
        turn();
        armAndFail();
        told();
        CHECK.end();
    }

    // Were the stand not as its names tell, the calls below would be refused for other reasons than are told.
    private static void allStands() {
        int[] holds = {0, 1, 2, 3, 4, 5, 6, 7, 8, 16, 13, 20, 21, 22, 23, 24, 25, 4, 8, 16, 4, 8, 16, -1};
        PatchAsks x = Stand.rack();
        for (int b = 0; b < 24; b++) CHECK.due("the stand, box " + b, x.what(b), holds[b]);
        for (int f = 1; f <= 7; f++) CHECK.due("the stand, findings(" + f + ")", x.findings(f), f == 5 ? 1 : 0);
        CHECK.due("the stand, trace", x.about(1), 7);
        CHECK.due("the stand, voices", x.about(0), 6);
        CHECK.due("the stand when full, voices", Stand.full().about(0), 40);
        CHECK.due("the stand when full, box 23", Stand.full().what(Stand.NOTHING), -1);
    }

    // UNKNOWN comes ahead of whatever else is wrong with the call, so all else is as wrong as it can be.
    private static void noSuchBox() {
        for (int b : Refusals.NO_BOXES) {
            String no = ": no box " + b;
            R.due("2" + no, x -> x.curve(b, 0, 1), UNKNOWN);
            R.due("2" + no + ", lane", x -> x.curve(b, 8, 1), UNKNOWN);
            R.due("2" + no + ", 17", x -> x.curve(b, 0, 17), UNKNOWN);
            R.due("2" + no + ", SIZE", x -> x.curve(b, 0, -1), UNKNOWN);
            R.due("3" + no, x -> x.sheet(b, 1, 1), UNKNOWN);
            R.due("3" + no + ", n", x -> x.sheet(b, 9, 1), UNKNOWN);
            R.due("3" + no + ", m", x -> x.sheet(b, 1, 9), UNKNOWN);
            R.due("3" + no + ", SIZE", x -> x.sheet(b, -1, 1), UNKNOWN);
            R.due("4" + no, x -> x.bank(b, 0, 1), UNKNOWN);
            R.due("4" + no + ", kind", x -> x.bank(b, 7, 1), UNKNOWN);
            R.due("4" + no + ", n", x -> x.bank(b, 0, 9), UNKNOWN);
            R.due("4" + no + ", SIZE", x -> x.bank(b, 0, -1), UNKNOWN);
            R.due("5" + no, x -> x.voice(b, 0), UNKNOWN);
            R.due("5" + no + ", kind", x -> x.voice(b, 6), UNKNOWN);
            R.dueWhenFull("5" + no + ", FULL", x -> x.voice(b, 0), UNKNOWN);
            R.due("6" + no, x -> x.share(b, 0), UNKNOWN);
            R.due("7" + no, x -> x.clear(b), UNKNOWN);
            R.due("8" + no, x -> x.what(b), UNKNOWN);
            R.due("9" + no, x -> x.is(b, 0), UNKNOWN);
            R.due("9" + no + ", q", x -> x.is(b, 33), UNKNOWN);
            R.due("10" + no, x -> x.width(b, 0), UNKNOWN);
            R.due("10" + no + ", sort", x -> x.width(b, 10), UNKNOWN);
            R.due("11" + no, x -> x.read(b, 0, 0), UNKNOWN);
            R.due("11" + no + ", lane", x -> x.read(b, 8, 0), UNKNOWN);
            R.due("12" + no, x -> x.write(b, 0, 0, 0), UNKNOWN);
            R.due("12" + no + ", lane", x -> x.write(b, 8, 0, 0), UNKNOWN);
            R.due("12" + no + ", word", x -> x.write(b, 6, 0, NO_FLOAT), UNKNOWN);
            R.due("13" + no, x -> x.copy(b, 0, Stand.INTS, 0, 1), UNKNOWN);
            R.due("13" + no + ", NULL", x -> x.copy(b, 0, Stand.NOTHING, 0, 1), UNKNOWN);
            R.due("13" + no + ", CAST", x -> x.copy(b, 0, Stand.SHEET, 0, 1), UNKNOWN);
            R.due("13" + no + ", INDEX", x -> x.copy(b, 0, Stand.INTS, 0, -1), UNKNOWN);
            R.due("14" + no, x -> x.grow(b, 1), UNKNOWN);
            R.due("14" + no + ", 17", x -> x.grow(b, 17), UNKNOWN);
            R.due("14" + no + ", SIZE", x -> x.grow(b, -1), UNKNOWN);
            R.due("15" + no, x -> x.shape(b, 0, 0, 0), UNKNOWN);
            R.due("15" + no + ", way", x -> x.shape(b, 0, 12, 0), UNKNOWN);
            R.due("15" + no + ", word", x -> x.shape(b, 0, 8, NEITHER), UNKNOWN);
            R.due("17" + no, x -> x.line(b, 0, 0), UNKNOWN);
            R.due("17" + no + ", INDEX", x -> x.line(b, -1, -1), UNKNOWN);
            R.due("18" + no, x -> x.rule(b, 0, 0, 5), UNKNOWN);
            R.due("18" + no + ", INDEX", x -> x.rule(b, -1, -1, 5), UNKNOWN);
            R.due("19" + no, x -> x.lay(b, 0, Stand.INTS), UNKNOWN);
            R.due("19" + no + ", CAST", x -> x.lay(b, 0, Stand.LONGS), UNKNOWN);
            R.due("20" + no, x -> x.set(b, 0, Stand.TONE), UNKNOWN);
            R.due("20" + no + ", CAST", x -> x.set(b, 0, Stand.INTS), UNKNOWN);
            R.due("21" + no, x -> x.get(b, 0), UNKNOWN);
            R.due("22" + no, x -> x.take(b, 0, Stand.TONE), UNKNOWN);
            R.due("23" + no, x -> x.level(b, 0), UNKNOWN);
            R.due("23" + no + ", as", x -> x.level(b, 3), UNKNOWN);
            R.due("24" + no, x -> x.raise(b, 0, 5), UNKNOWN);
            R.due("24" + no + ", as", x -> x.raise(b, 3, 5), UNKNOWN);
            R.dueEmptying("25" + no, x -> x.ask(b, 0), UNKNOWN);
            R.dueEmptying("25" + no + ", what", x -> x.ask(b, 6), UNKNOWN);
            R.dueEmptying("26" + no, x -> x.turn(b, 1), UNKNOWN);
            R.due("27" + no, x -> x.arm(b, true), UNKNOWN);
            R.due("27" + no + ", off", x -> x.arm(b, false), UNKNOWN);
            R.due("28" + no, x -> x.fail(b), UNKNOWN);
        }
    }

    private static void noSuchSecondBox() {
        for (int c : Refusals.NO_BOXES) {
            String no = ": no box c " + c;
            R.due("6" + no, x -> x.share(Stand.INTS, c), UNKNOWN);
            R.due("6" + no + ", nothing", x -> x.share(Stand.NOTHING, c), UNKNOWN);
            R.due("6" + no + ", nor b", x -> x.share(c, c), UNKNOWN);
            R.due("13" + no, x -> x.copy(Stand.INTS, 0, c, 0, 1), UNKNOWN);
            R.due("13" + no + ", NULL", x -> x.copy(Stand.NOTHING, 0, c, 0, 1), UNKNOWN);
            R.due("13" + no + ", CAST", x -> x.copy(Stand.SHEET, 0, c, 0, 1), UNKNOWN);
            R.due("13" + no + ", INDEX", x -> x.copy(Stand.INTS, 3, c, 0, 1), UNKNOWN);
            R.due("13" + no + ", nor b", x -> x.copy(c, 0, c, 0, 0), UNKNOWN);
            R.due("19" + no, x -> x.lay(Stand.SHEET, 0, c), UNKNOWN);
            R.due("19" + no + ", NULL", x -> x.lay(Stand.NOTHING, 0, c), UNKNOWN);
            R.due("19" + no + ", CAST", x -> x.lay(Stand.INTS, 0, c), UNKNOWN);
            R.due("19" + no + ", INDEX", x -> x.lay(Stand.SHEET, 3, c), UNKNOWN);
            R.due("19" + no + ", nor b", x -> x.lay(c, 0, c), UNKNOWN);
            R.due("20" + no, x -> x.set(Stand.ANY_BANK, 0, c), UNKNOWN);
            R.due("20" + no + ", NULL", x -> x.set(Stand.NOTHING, 0, c), UNKNOWN);
            R.due("20" + no + ", CAST", x -> x.set(Stand.TONE, 0, c), UNKNOWN);
            R.due("20" + no + ", INDEX", x -> x.set(Stand.ANY_BANK, 2, c), UNKNOWN);
            R.due("20" + no + ", nor b", x -> x.set(c, 0, c), UNKNOWN);
            R.due("22" + no, x -> x.take(Stand.ANY_BANK, 0, c), UNKNOWN);
            R.due("22" + no + ", NULL", x -> x.take(Stand.NOTHING, 0, c), UNKNOWN);
            R.due("22" + no + ", CAST", x -> x.take(Stand.TONE, 0, c), UNKNOWN);
            R.due("22" + no + ", INDEX", x -> x.take(Stand.ANY_BANK, 2, c), UNKNOWN);
            R.due("22" + no + ", nor b", x -> x.take(c, 0, c), UNKNOWN);
        }
    }

    private static void curve() {
        for (int lane : new int[] {-1, 8, LEAST, MOST}) {
            R.due("2: lane " + lane, x -> x.curve(Stand.INTS, lane, 3), OUTSIDE);
            R.due("2: lane " + lane + " and 17", x -> x.curve(Stand.INTS, lane, 17), OUTSIDE);
            R.due("2: lane " + lane + ", ahead of SIZE", x -> x.curve(Stand.INTS, lane, -1), OUTSIDE);
        }
        for (int n : new int[] {17, MOST}) R.due("2: n " + n, x -> x.curve(Stand.INTS, 4, n), OUTSIDE);
        for (int n : new int[] {-1, LEAST}) R.due("2: n " + n, x -> x.curve(Stand.INTS, 4, n), SIZE);
        R.due("2: SIZE, of nothing", x -> x.curve(Stand.NOTHING, 0, -1), SIZE);
    }

    private static void sheet() {
        for (int n : new int[] {9, MOST}) R.due("3: n " + n, x -> x.sheet(Stand.SHEET, n, 2), OUTSIDE);
        for (int m : new int[] {-1, 9, LEAST, MOST}) {
            R.due("3: m " + m, x -> x.sheet(Stand.SHEET, 3, m), OUTSIDE);
            R.due("3: m " + m + " of no lines", x -> x.sheet(Stand.SHEET, 0, m), OUTSIDE);
            R.due("3: m " + m + " and n 9", x -> x.sheet(Stand.SHEET, 9, m), OUTSIDE);
            R.due("3: m " + m + ", ahead of SIZE", x -> x.sheet(Stand.SHEET, -1, m), OUTSIDE);
        }
        for (int n : new int[] {-1, LEAST}) {
            R.due("3: n " + n, x -> x.sheet(Stand.SHEET, n, 0), SIZE);
            R.due("3: n " + n + " of 8", x -> x.sheet(Stand.SHEET, n, 8), SIZE);
        }
    }

    private static void bank() {
        for (int kind : new int[] {-1, 7, LEAST, MOST}) {
            R.due("4: kind " + kind, x -> x.bank(Stand.ANY_BANK, kind, 2), OUTSIDE);
            R.due("4: kind " + kind + " and 9", x -> x.bank(Stand.ANY_BANK, kind, 9), OUTSIDE);
            R.due("4: kind " + kind + ", ahead of SIZE", x -> x.bank(Stand.ANY_BANK, kind, -1), OUTSIDE);
        }
        for (int n : new int[] {9, MOST}) R.due("4: n " + n, x -> x.bank(Stand.ANY_BANK, 6, n), OUTSIDE);
        for (int n : new int[] {-1, LEAST}) R.due("4: n " + n, x -> x.bank(Stand.ANY_BANK, 6, n), SIZE);
    }

    private static void voice() {
        for (int kind : new int[] {-1, 6, LEAST, MOST}) {
            R.due("5: kind " + kind, x -> x.voice(Stand.TONE, kind), OUTSIDE);
            R.dueWhenFull("5: kind " + kind + ", ahead of FULL", x -> x.voice(Stand.TONE, kind), OUTSIDE);
        }
        for (int kind = 0; kind < 6; kind++) {
            int made = kind;
            R.dueWhenFull("5: FULL, kind " + kind, x -> x.voice(Stand.TONE, made), FULL);
        }
        R.dueWhenFull("5: FULL, in a box of nothing", x -> x.voice(Stand.NOTHING, 0), FULL);
    }

    private static void is() {
        for (int q : new int[] {-1, 9, 17, 18, 19, 27, 28, 29, 33, LEAST, MOST}) {
            R.due("9: q " + q, x -> x.is(Stand.INTS, q), OUTSIDE);
            R.due("9: q " + q + " of nothing", x -> x.is(Stand.NOTHING, q), OUTSIDE);
            R.due("9: q " + q + " of a bank", x -> x.is(Stand.ANY_BANK, q), OUTSIDE);
            R.due("9: q " + q + " of a chime", x -> x.is(Stand.CHIME, q), OUTSIDE);
        }
    }

    private static void width() {
        for (int sort : new int[] {-1, 10, LEAST, MOST}) {
            R.due("10: sort " + sort, x -> x.width(Stand.INTS, sort), OUTSIDE);
            R.due("10: sort " + sort + ", ahead of NULL", x -> x.width(Stand.NOTHING, sort), OUTSIDE);
            R.due("10: sort " + sort + ", ahead of CAST", x -> x.width(Stand.TONE, sort), OUTSIDE);
        }
        for (int asked = 0; asked <= 9; asked++) {
            int sort = asked;
            R.due("10: NULL, sort " + sort, x -> x.width(Stand.NOTHING, sort), NULL);
            R.due("10: CAST of a voice, sort " + sort, x -> x.width(Stand.DRUM, sort), CAST);
            if (sort != 4) R.due("10: CAST of ints, sort " + sort, x -> x.width(Stand.INTS, sort), CAST);
            if (sort != 8) R.due("10: CAST of a sheet, sort " + sort, x -> x.width(Stand.SHEET, sort), CAST);
            if (sort != 9) R.due("10: CAST of a bank, sort " + sort, x -> x.width(Stand.ANY_BANK, sort), CAST);
        }
    }

    private static void read() {
        for (int lane : new int[] {-1, 8, LEAST, MOST}) {
            R.due("11: lane " + lane, x -> x.read(Stand.INTS, lane, 0), OUTSIDE);
            R.due("11: lane " + lane + ", ahead of NULL", x -> x.read(Stand.NOTHING, lane, 0), OUTSIDE);
            R.due("11: lane " + lane + ", ahead of CAST", x -> x.read(Stand.SHEET, lane, 0), OUTSIDE);
            R.due("11: lane " + lane + ", ahead of INDEX", x -> x.read(Stand.INTS, lane, 3), OUTSIDE);
        }
        for (int asked = 0; asked < 8; asked++) {
            int lane = asked;
            R.due("11: NULL, lane " + lane, x -> x.read(Stand.NOTHING, lane, 0), NULL);
            R.due("11: NULL, no place", x -> x.read(Stand.NOTHING, lane, -1), NULL);
            R.due("11: CAST, lane " + lane, x -> x.read((lane + 1) % 8, lane, 0), CAST);
            R.due("11: CAST, ahead of INDEX", x -> x.read((lane + 7) % 8, lane, 3), CAST);
            for (int b : new int[] {Stand.SHEET, Stand.ANY_BANK, Stand.TONE}) {
                R.due("11: CAST, no curve in " + b, x -> x.read(b, lane, 0), CAST);
                R.due("11: CAST, no curve in " + b + ", ahead of INDEX", x -> x.read(b, lane, 9), CAST);
            }
            for (int i : new int[] {-1, 3, LEAST, MOST}) R.due("11: i " + i, x -> x.read(lane, lane, i), INDEX);
        }
        for (int i : new int[] {-1, 0, 1}) R.due("11: i " + i + " of none", x -> x.read(Stand.NO_INTS, 4, i), INDEX);
    }

    private static void write() {
        for (int lane : new int[] {-1, 8, LEAST, MOST}) {
            R.due("12: lane " + lane, x -> x.write(Stand.INTS, lane, 0, 9), OUTSIDE);
            R.due("12: lane " + lane + ", ahead of NULL", x -> x.write(Stand.NOTHING, lane, 0, 9), OUTSIDE);
            R.due("12: lane " + lane + ", ahead of CAST", x -> x.write(Stand.SHEET, lane, 0, 9), OUTSIDE);
            R.due("12: lane " + lane + ", ahead of INDEX", x -> x.write(Stand.INTS, lane, 3, 9), OUTSIDE);
        }
        for (int lane = 6; lane <= 7; lane++) writeNoNumber(lane);
        for (int asked = 0; asked < 8; asked++) {
            int lane = asked;
            R.due("12: NULL, lane " + lane, x -> x.write(Stand.NOTHING, lane, 0, 9), NULL);
            R.due("12: NULL, no place", x -> x.write(Stand.NOTHING, lane, -1, 9), NULL);
            R.due("12: CAST, lane " + lane, x -> x.write((lane + 1) % 8, lane, 0, 9), CAST);
            R.due("12: CAST, ahead of INDEX", x -> x.write((lane + 7) % 8, lane, 3, 9), CAST);
            for (int b : new int[] {Stand.SHEET, Stand.ANY_BANK, Stand.TONE}) {
                R.due("12: CAST, no curve in " + b, x -> x.write(b, lane, 0, 9), CAST);
            }
            for (int i : new int[] {-1, 3, LEAST, MOST}) R.due("12: i " + i, x -> x.write(lane, lane, i, 9), INDEX);
        }
        for (int i : new int[] {-1, 0, 1}) R.due("12: i " + i + " of none", x -> x.write(Stand.NO_INTS, 4, i, 9), INDEX);
    }

    private static void writeNoNumber(int lane) {
        for (long word : lane == 6 ? new long[] {NO_FLOAT, NEITHER} : new long[] {NO_DOUBLE, NEITHER}) {
            String no = "12: word " + word + " in lane " + lane;
            R.due(no, x -> x.write(lane, lane, 0, word), OUTSIDE);
            R.due(no + ", ahead of NULL", x -> x.write(Stand.NOTHING, lane, 0, word), OUTSIDE);
            R.due(no + ", ahead of CAST", x -> x.write(Stand.INTS, lane, 0, word), OUTSIDE);
            R.due(no + ", ahead of INDEX", x -> x.write(lane, lane, 3, word), OUTSIDE);
        }
    }

    private static void copy() {
        for (int c : new int[] {Stand.NOTHING, Stand.INTS, Stand.SHEET, Stand.TONE}) {
            R.due("13: NULL, b holds nothing, to " + c, x -> x.copy(Stand.NOTHING, 0, c, 0, 1), NULL);
            R.due("13: NULL, b holds nothing, ahead of INDEX", x -> x.copy(Stand.NOTHING, -1, c, 0, -1), NULL);
            for (int b : new int[] {Stand.SHEET, Stand.ANY_BANK, Stand.TONE}) {
                R.due("13: CAST, no curve in " + b + ", to " + c, x -> x.copy(b, 0, c, 0, 1), CAST);
                R.due("13: CAST, no curve in " + b + ", ahead of INDEX", x -> x.copy(b, -1, c, 0, -1), CAST);
            }
        }
        for (int c : new int[] {Stand.SHEET, Stand.ANY_BANK, Stand.TONE, Stand.LONGS, Stand.FLOATS, Stand.CHARS}) {
            R.due("13: CAST, no ints in " + c, x -> x.copy(Stand.INTS, 0, c, 0, 1), CAST);
            R.due("13: CAST, no ints in " + c + ", of 0", x -> x.copy(Stand.INTS, 0, c, 0, 0), CAST);
            R.due("13: CAST, no ints in " + c + ", ahead of INDEX", x -> x.copy(Stand.INTS, 3, c, 0, 1), CAST);
        }
        R.due("13: NULL, c holds nothing", x -> x.copy(Stand.INTS, 0, Stand.NOTHING, 0, 1), NULL);
        R.due("13: NULL, c holds nothing, of 0", x -> x.copy(Stand.INTS, 0, Stand.NOTHING, 0, 0), NULL);
        R.due("13: NULL, c holds nothing, ahead of INDEX", x -> x.copy(Stand.INTS, 3, Stand.NOTHING, 0, -1), NULL);
    }

    private static void copyPlaces() {
        int[][] no = {{0, 0, -1}, {0, 0, LEAST}, {3, 3, -1}, {MOST, MOST, LEAST}, {0, 0, 4}, {1, 0, 3}, {0, 1, 3},
            {3, 0, 1}, {0, 3, 1}, {4, 0, 0}, {0, 4, 0}, {-1, 0, 0}, {0, -1, 0}, {-1, 0, 1}, {0, -1, 1}, {-1, 0, 3},
            {0, -1, 3}, {1, 0, MOST}, {0, 1, MOST}, {MOST, 0, 1}, {0, MOST, 1}, {MOST, 0, MOST}, {0, MOST, MOST},
            {LEAST, 0, 1}, {0, LEAST, 1}, {LEAST, 0, LEAST}, {0, 0, MOST}};
        for (int[] a : no) {
            String call = "13: INDEX, from " + a[0] + " to " + a[1] + ", of " + a[2];
            R.due(call, x -> x.copy(Stand.INTS, a[0], Stand.SAME_INTS, a[1], a[2]), INDEX);
        }
        R.due("13: INDEX, 1 from none", x -> x.copy(Stand.NO_INTS, 0, Stand.INTS, 0, 1), INDEX);
        R.due("13: INDEX, 1 to none", x -> x.copy(Stand.INTS, 0, Stand.NO_INTS, 0, 1), INDEX);
        R.due("13: INDEX, 0 from behind none", x -> x.copy(Stand.NO_INTS, 1, Stand.INTS, 0, 0), INDEX);
    }

    private static void grow() {
        for (int n : new int[] {17, MOST}) {
            R.due("14: n " + n, x -> x.grow(Stand.INTS, n), OUTSIDE);
            R.due("14: n " + n + ", ahead of NULL", x -> x.grow(Stand.NOTHING, n), OUTSIDE);
            R.due("14: n " + n + ", ahead of CAST", x -> x.grow(Stand.SHEET, n), OUTSIDE);
        }
        R.due("14: NULL", x -> x.grow(Stand.NOTHING, 1), NULL);
        R.due("14: NULL, ahead of SIZE", x -> x.grow(Stand.NOTHING, -1), NULL);
        for (int b : new int[] {Stand.SHEET, Stand.ANY_BANK, Stand.TONE}) {
            R.due("14: CAST, no curve in " + b, x -> x.grow(b, 1), CAST);
            R.due("14: CAST, no curve in " + b + ", ahead of SIZE", x -> x.grow(b, -1), CAST);
        }
        for (int asked = 0; asked < 8; asked++) {
            int lane = asked;
            for (int n : new int[] {-1, LEAST}) R.due("14: n " + n + ", lane " + lane, x -> x.grow(lane, n), SIZE);
        }
    }

    private static void shape() {
        for (int way : new int[] {-1, 12, LEAST, MOST}) {
            R.due("15: way " + way, x -> x.shape(Stand.INTS, 0, way, 1), OUTSIDE);
            R.due("15: way " + way + ", ahead of NULL", x -> x.shape(Stand.NOTHING, 0, way, 1), OUTSIDE);
            R.due("15: way " + way + ", ahead of CAST", x -> x.shape(Stand.TRUTHS, 0, way, 1), OUTSIDE);
            R.due("15: way " + way + ", ahead of INDEX", x -> x.shape(Stand.INTS, 3, way, 1), OUTSIDE);
            R.due("15: way " + way + " and the word", x -> x.shape(Stand.FLOATS, 0, way, NEITHER), OUTSIDE);
        }
        for (int asked = 0; asked < 12; asked++) {
            int way = asked;
            R.due("15: NULL, way " + way, x -> x.shape(Stand.NOTHING, 0, way, 1), NULL);
            R.due("15: NULL, no place", x -> x.shape(Stand.NOTHING, -1, way, 1), NULL);
            R.due("15: NULL, by 0", x -> x.shape(Stand.NOTHING, 0, way, 0), NULL);
            R.due("15: NULL, a word that tells none", x -> x.shape(Stand.NOTHING, 0, way, NEITHER), NULL);
            for (int b : new int[] {0, 1, 2, 3, Stand.SHEET, Stand.ANY_BANK, Stand.TONE}) {
                R.due("15: CAST, way " + way + " of " + b, x -> x.shape(b, 0, way, 1), CAST);
                R.due("15: CAST, way " + way + " of " + b + ", ahead of INDEX", x -> x.shape(b, 3, way, 1), CAST);
                R.due("15: CAST, way " + way + " of " + b + ", ahead of ZERO", x -> x.shape(b, 0, way, 0), CAST);
            }
        }
    }

    // 1 to 4, 7: floats, doubles alone; 11: ints, longs alone.
    private static void shapeWays() {
        for (int asked = 0; asked < 12; asked++) {
            int way = asked;
            boolean realsAlone = way >= 1 && way <= 4 || way == 7;
            for (int lane = 4; lane < 8; lane++) {
                int b = lane;
                boolean has = lane < 6 ? !realsAlone : way != 11;
                String of = "15: way " + way + " of lane " + lane;
                for (int i : new int[] {-1, 3, LEAST, MOST}) {
                    R.due(of + ", no place " + i, x -> x.shape(b, i, way, 1), has ? INDEX : CAST);
                }
                if (!has) R.due(of, x -> x.shape(b, 0, way, 1), CAST);
            }
            int none = realsAlone ? CAST : INDEX;
            R.due("15: way " + way + " of none", x -> x.shape(Stand.NO_INTS, 0, way, 1), none);
        }
        R.due("15: 11 of floats, and the word", x -> x.shape(Stand.FLOATS, 0, 11, NO_FLOAT), CAST);
        R.due("15: 11 of doubles, and the word", x -> x.shape(Stand.DOUBLES, 0, 11, NO_DOUBLE), CAST);
        R.due("15: 11 of floats, ahead of ZERO", x -> x.shape(Stand.FLOATS, 0, 11, 0), CAST);
    }

    private static void shapeWords() {
        for (int asked = 5; asked <= 8; asked++) {
            int way = asked;
            for (int lane = 6; lane <= 7; lane++) {
                int b = lane;
                for (long word : lane == 6 ? new long[] {NO_FLOAT, NEITHER} : new long[] {NO_DOUBLE, NEITHER}) {
                    String no = "15: way " + way + ", word " + word + " in lane " + lane;
                    R.due(no, x -> x.shape(b, 0, way, word), OUTSIDE);
                    R.due(no + ", ahead of INDEX", x -> x.shape(b, 3, way, word), OUTSIDE);
                    R.due(no + ", ahead of ZERO", x -> x.shape(b, 2, way, word), OUTSIDE);
                }
            }
        }
        for (int asked : new int[] {0, 1, 2, 3, 4, 9, 10}) {
            int way = asked;
            R.due("15: way " + way + " has no y, so INDEX", x -> x.shape(Stand.FLOATS, 3, way, NO_FLOAT), INDEX);
            R.due("15: way " + way + " has no y, so INDEX", x -> x.shape(Stand.DOUBLES, 3, way, NO_DOUBLE), INDEX);
        }
    }

    private static void shapeZero() {
        for (int way : new int[] {8, 11}) {
            for (int lane = 4; lane <= 5; lane++) {
                int b = lane;
                R.due("15: way " + way + " by 0, lane " + lane, x -> x.shape(b, 0, way, 0), ZERO);
                R.due("15: INDEX, ahead of ZERO, lane " + lane, x -> x.shape(b, 3, way, 0), INDEX);
            }
            R.due("15: way " + way + " by what is 0 as an int", x -> x.shape(Stand.INTS, 0, way, 1L << 32), ZERO);
        }
        long floatBelow = 0x80000000L;
        long doubleBelow = Long.MIN_VALUE;
        for (int i = 0; i <= 2; i++) {
            int place = i;
            R.due("15: left of float " + i + " by 0.0", x -> x.shape(Stand.FLOATS, place, 8, 0), ZERO);
            R.due("15: left of float " + i + " by -0.0", x -> x.shape(Stand.FLOATS, place, 8, floatBelow), ZERO);
            R.due("15: left of double " + i + " by 0.0", x -> x.shape(Stand.DOUBLES, place, 8, 0), ZERO);
            R.due("15: left of double " + i + " by -0.0", x -> x.shape(Stand.DOUBLES, place, 8, doubleBelow), ZERO);
        }
        R.due("15: INDEX, ahead of ZERO", x -> x.shape(Stand.DOUBLES, 3, 8, 0), INDEX);
        R.due("15: left of an endless float by 1", x -> x.shape(Stand.FLOATS, 2, 8, 0x3f800000L), ZERO);
        R.due("15: left of an endless float by it", x -> x.shape(Stand.FLOATS, 2, 8, 0x7f800000L), ZERO);
        R.due("15: left of an endless double by 1", x -> x.shape(Stand.DOUBLES, 2, 8, 0x3ff0000000000000L), ZERO);
        R.due("15: left of an endless double by it", x -> x.shape(Stand.DOUBLES, 2, 8, 0x7ff0000000000000L), ZERO);
    }

    private static void lineAndRule(String told, int b, int i, int k, int want) {
        R.due("17: " + told, x -> x.line(b, i, k), want);
        R.due("18: " + told, x -> x.rule(b, i, k, 5), want);
    }

    private static void lineAndRule() {
        for (int b : new int[] {Stand.INTS, Stand.ANY_BANK, Stand.TONE}) {
            lineAndRule("CAST, no sheet in " + b, b, 0, 0, CAST);
            lineAndRule("CAST, no sheet in " + b + ", ahead of INDEX", b, -1, -1, CAST);
        }
        lineAndRule("NULL", Stand.NOTHING, 0, 0, NULL);
        lineAndRule("NULL, ahead of INDEX", Stand.NOTHING, -1, -1, NULL);
        for (int i : new int[] {-1, 3, LEAST, MOST}) {
            lineAndRule("INDEX, i " + i, Stand.SHEET, i, 0, INDEX);
            lineAndRule("INDEX, i " + i + " and k", Stand.SHEET, i, -1, INDEX);
        }
        lineAndRule("INDEX, no lines", Stand.NO_LINES, 0, 0, INDEX);
        lineAndRule("NULL, the line", Stand.SHEET, Stand.NO_LINE, 0, NULL);
        lineAndRule("NULL, the line, ahead of INDEX", Stand.SHEET, Stand.NO_LINE, -1, NULL);
        for (int k : new int[] {-1, 2, LEAST, MOST}) lineAndRule("INDEX, k " + k, Stand.SHEET, Stand.OWN_LINE, k, INDEX);
        for (int k : new int[] {-1, 3, LEAST, MOST}) lineAndRule("INDEX, k " + k, Stand.SHEET, Stand.LAID_LINE, k, INDEX);
    }

    private static void lay() {
        for (int b : new int[] {Stand.INTS, Stand.ANY_BANK, Stand.TONE}) {
            R.due("19: CAST, no sheet in " + b, x -> x.lay(b, 0, Stand.INTS), CAST);
            R.due("19: CAST, no sheet in " + b + ", nothing", x -> x.lay(b, 0, Stand.NOTHING), CAST);
            R.due("19: CAST, no sheet in " + b + ", no ints", x -> x.lay(b, 0, Stand.LONGS), CAST);
            R.due("19: CAST, no sheet in " + b + ", ahead of INDEX", x -> x.lay(b, -1, Stand.INTS), CAST);
        }
        for (int c : new int[] {0, 1, 2, 3, 5, 6, 7, Stand.SHEET, Stand.ANY_BANK, Stand.TONE}) {
            R.due("19: CAST, no ints in " + c, x -> x.lay(Stand.SHEET, 0, c), CAST);
            R.due("19: CAST, no ints in " + c + ", ahead of NULL", x -> x.lay(Stand.NOTHING, 0, c), CAST);
            R.due("19: CAST, no ints in " + c + ", ahead of INDEX", x -> x.lay(Stand.SHEET, 3, c), CAST);
        }
        R.due("19: NULL", x -> x.lay(Stand.NOTHING, 0, Stand.INTS), NULL);
        R.due("19: NULL, of nothing", x -> x.lay(Stand.NOTHING, 0, Stand.NOTHING), NULL);
        R.due("19: NULL, ahead of INDEX", x -> x.lay(Stand.NOTHING, -1, Stand.INTS), NULL);
        for (int i : new int[] {-1, 3, LEAST, MOST}) {
            R.due("19: INDEX, i " + i, x -> x.lay(Stand.SHEET, i, Stand.INTS), INDEX);
            R.due("19: INDEX, i " + i + " of nothing", x -> x.lay(Stand.SHEET, i, Stand.NOTHING), INDEX);
        }
        R.due("19: INDEX, no lines", x -> x.lay(Stand.NO_LINES, 0, Stand.INTS), INDEX);
    }

    private static void set() {
        for (int b : new int[] {Stand.INTS, Stand.SHEET, Stand.TONE}) {
            R.due("20: CAST, no bank in " + b, x -> x.set(b, 0, Stand.TONE), CAST);
            R.due("20: CAST, no bank in " + b + ", nothing", x -> x.set(b, 0, Stand.NOTHING), CAST);
            R.due("20: CAST, no bank in " + b + ", no voice", x -> x.set(b, 0, Stand.INTS), CAST);
            R.due("20: CAST, no bank in " + b + ", ahead of INDEX", x -> x.set(b, -1, Stand.TONE), CAST);
        }
        for (int c : new int[] {Stand.INTS, Stand.SHEET, Stand.ANY_BANK}) {
            R.due("20: CAST, no voice in " + c, x -> x.set(Stand.ANY_BANK, 0, c), CAST);
            R.due("20: CAST, no voice in " + c + ", ahead of NULL", x -> x.set(Stand.NOTHING, 0, c), CAST);
            R.due("20: CAST, no voice in " + c + ", ahead of INDEX", x -> x.set(Stand.ANY_BANK, 2, c), CAST);
        }
        R.due("20: NULL", x -> x.set(Stand.NOTHING, 0, Stand.TONE), NULL);
        R.due("20: NULL, of nothing", x -> x.set(Stand.NOTHING, 0, Stand.NOTHING), NULL);
        R.due("20: NULL, ahead of INDEX", x -> x.set(Stand.NOTHING, -1, Stand.TONE), NULL);
        for (int i : new int[] {-1, 2, LEAST, MOST}) {
            R.due("20: INDEX, i " + i, x -> x.set(Stand.NOISE_BANK, i, Stand.WIND), INDEX);
            R.due("20: INDEX, i " + i + " of nothing", x -> x.set(Stand.NOISE_BANK, i, Stand.NOTHING), INDEX);
            R.due("20: INDEX, i " + i + ", ahead of STORE", x -> x.set(Stand.NOISE_BANK, i, Stand.TONE), INDEX);
        }
        R.due("20: INDEX, no places", x -> x.set(Stand.NO_PLACES, 0, Stand.TONE), INDEX);
        for (int c = Stand.TONE; c <= Stand.CHIME; c++) {
            int other = c;
            R.due("20: STORE of " + c, x -> x.set(Stand.NOISE_BANK, 0, other), STORE);
            R.due("20: STORE of " + c + " where a drum is", x -> x.set(Stand.NOISE_BANK, 1, other), STORE);
        }
    }

    private static void getAndTake(String told, int b, int i, int want) {
        R.due("21: " + told, x -> x.get(b, i), want);
        R.due("22: " + told, x -> x.take(b, i, Stand.TONE), want);
        R.due("22: " + told + ", over itself", x -> x.take(b, i, b), want);
    }

    private static void getAndTake() {
        for (int b : new int[] {Stand.INTS, Stand.SHEET, Stand.TONE}) {
            getAndTake("CAST, no bank in " + b, b, 0, CAST);
            getAndTake("CAST, no bank in " + b + ", ahead of INDEX", b, -1, CAST);
        }
        getAndTake("NULL", Stand.NOTHING, 0, NULL);
        getAndTake("NULL, ahead of INDEX", Stand.NOTHING, -1, NULL);
        for (int i : new int[] {-1, 2, LEAST, MOST}) getAndTake("INDEX, i " + i, Stand.ANY_BANK, i, INDEX);
        getAndTake("INDEX, no places", Stand.NO_PLACES, 0, INDEX);
    }

    private static void levelAndRaise(String told, int b, int as, int want) {
        R.due("23: " + told, x -> x.level(b, as), want);
        R.due("24: " + told, x -> x.raise(b, as, 500), want);
    }

    private static void levelAndRaise() {
        for (int as : new int[] {-1, 3, LEAST, MOST}) {
            levelAndRaise("as " + as, Stand.BELL, as, OUTSIDE);
            levelAndRaise("as " + as + ", ahead of CAST", Stand.INTS, as, OUTSIDE);
            levelAndRaise("as " + as + ", ahead of NULL", Stand.NOTHING, as, OUTSIDE);
        }
        for (int as = 0; as <= 2; as++) {
            levelAndRaise("NULL, as " + as, Stand.NOTHING, as, NULL);
            for (int b : new int[] {Stand.INTS, Stand.SHEET, Stand.ANY_BANK}) {
                levelAndRaise("CAST, no voice in " + b + ", as " + as, b, as, CAST);
            }
        }
        for (int b : new int[] {Stand.TONE, Stand.NOISE, Stand.WIND, Stand.DRUM}) {
            levelAndRaise("CAST, no bell in " + b, b, 1, CAST);
        }
        for (int b = Stand.TONE; b <= Stand.WIND; b++) levelAndRaise("CAST, no drum in " + b, b, 2, CAST);
    }

    private static void ask() {
        for (int what : new int[] {-1, 6, LEAST, MOST}) {
            R.dueEmptying("25: what " + what, x -> x.ask(Stand.CHIME, what), OUTSIDE);
            R.dueEmptying("25: what " + what + ", ahead of CAST", x -> x.ask(Stand.INTS, what), OUTSIDE);
            R.dueEmptying("25: what " + what + ", ahead of NULL", x -> x.ask(Stand.NOTHING, what), OUTSIDE);
        }
        for (int asked = 0; asked <= 5; asked++) {
            int what = asked;
            R.dueEmptying("25: NULL, what " + what, x -> x.ask(Stand.NOTHING, what), NULL);
            for (int b : new int[] {Stand.INTS, Stand.SHEET, Stand.ANY_BANK}) {
                R.dueEmptying("25: CAST, no voice in " + b + ", what " + what, x -> x.ask(b, what), CAST);
            }
        }
        R.dueEmptying("25: CAST, a noise is not heard", x -> x.ask(Stand.NOISE, 3), CAST);
        R.dueEmptying("25: CAST, a wind is not heard", x -> x.ask(Stand.WIND, 3), CAST);
    }

    private static void turn() {
        R.dueEmptying("26: NULL", x -> x.turn(Stand.NOTHING, 1), NULL);
        for (int b : new int[] {Stand.INTS, Stand.SHEET, Stand.ANY_BANK}) {
            R.dueEmptying("26: CAST, no voice in " + b, x -> x.turn(b, 1), CAST);
        }
    }

    private static void armAndFail() {
        for (boolean on : new boolean[] {true, false}) {
            R.due("27: NULL, " + on, x -> x.arm(Stand.NOTHING, on), NULL);
            for (int b : new int[] {Stand.INTS, Stand.SHEET, Stand.ANY_BANK}) {
                R.due("27: CAST, no voice in " + b + ", " + on, x -> x.arm(b, on), CAST);
            }
        }
        R.due("28: NULL, nothing", x -> x.fail(Stand.NOTHING), NULL);
        for (int b : new int[] {Stand.INTS, Stand.SHEET, Stand.ANY_BANK}) {
            R.due("28: CAST, no voice in " + b, x -> x.fail(b), CAST);
        }
        R.due("28: TROUBLE", x -> x.fail(Stand.TONE), TROUBLE);
        R.due("28: NULL, it has none", x -> x.fail(Stand.DRUM), NULL);
    }

    private static void told() {
        for (int f : new int[] {0, 8, -1, LEAST, MOST}) R.due("31: findings(" + f + ")", x -> x.findings(f), OUTSIDE);
        for (int what : new int[] {-1, 4, LEAST, MOST}) R.due("32: about(" + what + ")", x -> x.about(what), OUTSIDE);
    }
}
