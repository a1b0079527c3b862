/**
 * The boundary cases of promise 15, each with its answer written out: the least whole number, -0.0 and 0.0, what is
 * endless, the smallest and the largest floats and doubles, and what lies right beside a half or the end of a lane.
 */
public final class ShapeEdgesTest {
    private static final int INDEX = -12, CAST = -13;
    private static final int LEAST = Integer.MIN_VALUE, MOST = Integer.MAX_VALUE;
    private static final Check CHECK = new Check("ShapeEdgesTest");

    public static void main(String[] args) {
        waysAre0To11();
        placesAre0ToTheLast();
        sizeOfWholes();
        greaterAndLesserWhole();
        leftOfWholes();
        wholesAsLongAndInt();
        wholesByY();
        sizeFloorCeilingNearestSign();
        greaterAndLesser();
        withTheSignOfY();
        leftOfReals();
        leftOfTheGreatest();
        realsAsLongAndInt();
        floatsAtTheEndsOfIntAndLong();
        doublesAtTheEndsOfIntAndLong();
        wordsThatAreNoMatter();
        nothingIsChangedButSeen();
        CHECK.end();
    }

    private static void shaped(int lane, long x, int way, long y, long want) {
        PatchAsks p = new PatchAsks();
        p.curve(0, lane, 1);
        String call = "15: way " + way + " of word " + x + ", y " + y + ", lane " + lane;
        CHECK.due(call + ", written", p.write(0, lane, 0, x), 0);
        CHECK.due(call, p.shape(0, 0, way, y), 0);
        CHECK.due(call + ", seen", p.seen(), want);
    }

    private static void waysAre0To11() {
        PatchAsks p = new PatchAsks();
        p.curve(4, 4, 1);
        p.curve(6, 6, 1);
        CHECK.due("15: way -1", p.shape(4, 0, -1, 1), PatchAsks.OUTSIDE);
        CHECK.due("15: way 0", p.shape(4, 0, 0, 1), 0);
        CHECK.due("15: way 11", p.shape(4, 0, 11, 1), 0);
        CHECK.due("15: way 12", p.shape(4, 0, 12, 1), PatchAsks.OUTSIDE);
        String ints = "t....tt.tttt";
        String floats = "ttttttttttt.";
        for (int way = 0; way <= 11; way++) {
            CHECK.due("15: ints, way " + way, p.shape(4, 0, way, 1), ints.charAt(way) == 't' ? 0 : CAST);
            CHECK.due("15: floats, way " + way, p.shape(6, 0, way, 1), floats.charAt(way) == 't' ? 0 : CAST);
        }
    }

    private static void placesAre0ToTheLast() {
        for (int lane = 4; lane <= 7; lane++) {
            PatchAsks p = new PatchAsks();
            p.curve(0, lane, 16);
            p.write(0, lane, 0, 3);
            p.write(0, lane, 15, 4);
            CHECK.due("15: place -1", p.shape(0, -1, 0, 0), INDEX);
            CHECK.due("15: place 16", p.shape(0, 16, 0, 0), INDEX);
            CHECK.due("15: nothing is seen", p.seen(), 0);
            CHECK.due("15: place 0", p.shape(0, 0, 0, 0), 0);
            CHECK.due("15: the first", p.seen(), 3);
            CHECK.due("15: place 15", p.shape(0, 15, 0, 0), 0);
            CHECK.due("15: the last", p.seen(), 4);
            p.curve(0, lane, 0);
            CHECK.due("15: place 0 of none", p.shape(0, 0, 0, 0), INDEX);
        }
    }

    // ---- ints, longs

    private static long least(int lane) {
        return lane == 4 ? LEAST : Long.MIN_VALUE;
    }

    private static long greatest(int lane) {
        return lane == 4 ? MOST : Long.MAX_VALUE;
    }

    private static void sizeOfWholes() {
        for (int lane = 4; lane <= 5; lane++) {
            shaped(lane, least(lane), 0, 0, least(lane));
            shaped(lane, least(lane) + 1, 0, 0, greatest(lane));
            shaped(lane, greatest(lane), 0, 0, greatest(lane));
            shaped(lane, -1, 0, 0, 1);
            shaped(lane, 0, 0, 0, 0);
        }
        shaped(5, LEAST, 0, 0, 2147483648L);
    }

    private static void greaterAndLesserWhole() {
        for (int lane = 4; lane <= 5; lane++) {
            long least = least(lane);
            long greatest = greatest(lane);
            shaped(lane, least, 5, greatest, greatest);
            shaped(lane, greatest, 5, least, greatest);
            shaped(lane, least, 6, greatest, least);
            shaped(lane, greatest, 6, least, least);
            shaped(lane, least, 5, least, least);
            shaped(lane, greatest, 6, greatest, greatest);
            shaped(lane, 0, 5, -1, 0);
            shaped(lane, 0, 6, -1, -1);
        }
        // An int's y is told by 32 bits, a long's by all.
        shaped(4, 0, 5, 0x80000000L, 0);
        shaped(4, 0, 6, 0x80000000L, LEAST);
        shaped(4, 0, 5, 0x100000003L, 3);
        shaped(4, 0, 6, 0xffffffffL, -1);
        shaped(5, 0, 5, 0x80000000L, 0x80000000L);
        shaped(5, 0, 6, 0xffffffffL, 0);
    }

    private static void leftOfWholes() {
        for (int lane = 4; lane <= 5; lane++) {
            long least = least(lane);
            long greatest = greatest(lane);
            shaped(lane, least, 8, -1, 0);
            shaped(lane, least, 8, 1, 0);
            shaped(lane, least, 8, least, 0);
            shaped(lane, least, 8, greatest, -1);
            shaped(lane, greatest, 8, least, greatest);
            shaped(lane, greatest, 8, greatest, 0);
            shaped(lane, least + 1, 8, least, least + 1);
            shaped(lane, 0, 8, least, 0);
            shaped(lane, -7, 8, 3, -1);
            shaped(lane, 7, 8, -3, 1);
            shaped(lane, -7, 8, -3, -1);
        }
        shaped(4, 7, 8, 0x100000003L, 1);
        shaped(5, 7, 8, 0x100000003L, 7);
    }

    private static void wholesAsLongAndInt() {
        for (int lane = 4; lane <= 5; lane++) {
            for (long x : new long[] {LEAST, LEAST + 1, -1, 0, 1, MOST}) {
                shaped(lane, x, 9, 0, x);
                shaped(lane, x, 10, 0, x);
            }
        }
        shaped(5, Long.MIN_VALUE, 9, 0, Long.MIN_VALUE);
        shaped(5, Long.MAX_VALUE, 9, 0, Long.MAX_VALUE);
        shaped(5, Long.MIN_VALUE, 10, 0, 0);
        shaped(5, Long.MAX_VALUE, 10, 0, -1);
        shaped(5, 1L + MOST, 10, 0, LEAST);
        shaped(5, -1L + LEAST, 10, 0, MOST);
        shaped(5, 0xffffffffL, 10, 0, -1);
        shaped(5, 1L << 32, 10, 0, 0);
    }

    private static void wholesByY() {
        for (int lane = 4; lane <= 5; lane++) {
            long least = least(lane);
            long greatest = greatest(lane);
            shaped(lane, least, 11, -1, least);
            shaped(lane, least, 11, 1, least);
            shaped(lane, least + 1, 11, -1, greatest);
            shaped(lane, greatest, 11, -1, least + 1);
            shaped(lane, least, 11, least, 1);
            shaped(lane, greatest, 11, least, 0);
            shaped(lane, least, 11, greatest, -1);
            shaped(lane, 0, 11, least, 0);
            shaped(lane, -7, 11, 2, -3);
            shaped(lane, 7, 11, -2, -3);
            shaped(lane, -7, 11, -2, 3);
            shaped(lane, -1, 11, 2, 0);
        }
        shaped(4, 7, 11, 0x100000002L, 3);
        shaped(4, 7, 11, 0xffffffffL, -7);
        shaped(5, 7, 11, 0x100000002L, 0);
    }

    // ---- floats, doubles

    /** The word of a number by its name; a '-' ahead of the name is the sign. */
    private static long word(int lane, String name) {
        boolean below = name.startsWith("-");
        String size = below ? name.substring(1) : name;
        if (lane == 6) return floatSize(size) | (below ? -1L << 31 : 0);
        return doubleSize(size) | (below ? Long.MIN_VALUE : 0);
    }

    private static long floatSize(String name) {
        return switch (name) {
            case "0" -> 0x00000000L;
            case "smallest" -> 0x00000001L;
            case "below normal" -> 0x007fffffL;
            case "normal" -> 0x00800000L;
            case "below half" -> 0x3effffffL;
            case "half" -> 0x3f000000L;
            case "above half" -> 0x3f000001L;
            case "below 1" -> 0x3f7fffffL;
            case "1" -> 0x3f800000L;
            case "above 1" -> 0x3f800001L;
            case "below 1.5" -> 0x3fbfffffL;
            case "1.5" -> 0x3fc00000L;
            case "above 1.5" -> 0x3fc00001L;
            case "below 2" -> 0x3fffffffL;
            case "2" -> 0x40000000L;
            case "below 2.5" -> 0x401fffffL;
            case "2.5" -> 0x40200000L;
            case "above 2.5" -> 0x40200001L;
            case "3" -> 0x40400000L;
            case "3.5" -> 0x40600000L;
            case "4" -> 0x40800000L;
            case "all but two whole" -> 0x4afffffcL;
            case "last half but one" -> 0x4afffffdL;
            case "all but one whole" -> 0x4afffffeL;
            case "last half" -> 0x4affffffL;
            case "all whole" -> 0x4b000000L;
            case "above all whole" -> 0x4b000001L;
            case "above a long" -> 0x5fc00000L;
            case "greatest" -> 0x7f7fffffL;
            case "endless" -> 0x7f800000L;
            default -> throw new IllegalArgumentException(name);
        };
    }

    private static long doubleSize(String name) {
        return switch (name) {
            case "0" -> 0x0000000000000000L;
            case "smallest" -> 0x0000000000000001L;
            case "below normal" -> 0x000fffffffffffffL;
            case "normal" -> 0x0010000000000000L;
            case "below half" -> 0x3fdfffffffffffffL;
            case "half" -> 0x3fe0000000000000L;
            case "above half" -> 0x3fe0000000000001L;
            case "below 1" -> 0x3fefffffffffffffL;
            case "1" -> 0x3ff0000000000000L;
            case "above 1" -> 0x3ff0000000000001L;
            case "below 1.5" -> 0x3ff7ffffffffffffL;
            case "1.5" -> 0x3ff8000000000000L;
            case "above 1.5" -> 0x3ff8000000000001L;
            case "below 2" -> 0x3fffffffffffffffL;
            case "2" -> 0x4000000000000000L;
            case "below 2.5" -> 0x4003ffffffffffffL;
            case "2.5" -> 0x4004000000000000L;
            case "above 2.5" -> 0x4004000000000001L;
            case "3" -> 0x4008000000000000L;
            case "3.5" -> 0x400c000000000000L;
            case "4" -> 0x4010000000000000L;
            case "all but two whole" -> 0x432ffffffffffffcL;
            case "last half but one" -> 0x432ffffffffffffdL;
            case "all but one whole" -> 0x432ffffffffffffeL;
            case "last half" -> 0x432fffffffffffffL;
            case "all whole" -> 0x4330000000000000L;
            case "above all whole" -> 0x4330000000000001L;
            case "above a long" -> 0x43f8000000000000L;
            case "greatest" -> 0x7fefffffffffffffL;
            case "endless" -> 0x7ff0000000000000L;
            default -> throw new IllegalArgumentException(name);
        };
    }

    private static String negated(String name) {
        return name.startsWith("-") ? name.substring(1) : "-" + name;
    }

    // Of x: its size is x, then what is not above it, what is not below it, the nearest, its sign; of -x all mirrored.
    private static void rounded(String x, String floor, String ceiling, String nearest, String sign) {
        for (int lane = 6; lane <= 7; lane++) {
            String[] want = {x, floor, ceiling, nearest, sign};
            String[] wantBelow = {x, negated(ceiling), negated(floor), negated(nearest), negated(sign)};
            for (int way = 0; way <= 4; way++) {
                shaped(lane, word(lane, x), way, 0, word(lane, want[way]));
                shaped(lane, word(lane, "-" + x), way, 0, word(lane, wantBelow[way]));
            }
        }
    }

    private static void sizeFloorCeilingNearestSign() {
        rounded("0", "0", "0", "0", "0");
        rounded("smallest", "0", "1", "0", "1");
        rounded("below normal", "0", "1", "0", "1");
        rounded("normal", "0", "1", "0", "1");
        rounded("below half", "0", "1", "0", "1");
        rounded("half", "0", "1", "0", "1");
        rounded("above half", "0", "1", "1", "1");
        rounded("below 1", "0", "1", "1", "1");
        rounded("1", "1", "1", "1", "1");
        rounded("above 1", "1", "2", "1", "1");
        rounded("below 1.5", "1", "2", "1", "1");
        rounded("1.5", "1", "2", "2", "1");
        rounded("above 1.5", "1", "2", "2", "1");
        rounded("below 2", "1", "2", "2", "1");
        rounded("2", "2", "2", "2", "1");
        rounded("below 2.5", "2", "3", "2", "1");
        rounded("2.5", "2", "3", "2", "1");
        rounded("above 2.5", "2", "3", "3", "1");
        rounded("3.5", "3", "4", "4", "1");
        rounded("last half but one", "all but two whole", "all but one whole", "all but two whole", "1");
        rounded("last half", "all but one whole", "all whole", "all whole", "1");
        rounded("all whole", "all whole", "all whole", "all whole", "1");
        rounded("above all whole", "above all whole", "above all whole", "above all whole", "1");
        rounded("above a long", "above a long", "above a long", "above a long", "1");
        rounded("greatest", "greatest", "greatest", "greatest", "1");
        rounded("endless", "endless", "endless", "endless", "1");
    }

    private static void ordered(String lesser, String greater) {
        for (int lane = 6; lane <= 7; lane++) {
            long low = word(lane, lesser);
            long high = word(lane, greater);
            shaped(lane, low, 5, high, high);
            shaped(lane, high, 5, low, high);
            shaped(lane, low, 6, high, low);
            shaped(lane, high, 6, low, low);
            shaped(lane, low, 5, low, low);
            shaped(lane, low, 6, low, low);
        }
    }

    private static void greaterAndLesser() {
        String[] up = {"-endless", "-greatest", "-above 1", "-1", "-normal", "-below normal", "-smallest", "-0", "0",
            "smallest", "below normal", "normal", "1", "above 1", "greatest", "endless"};
        for (int low = 0; low < up.length; low++) {
            for (int high = low + 1; high < up.length; high++) ordered(up[low], up[high]);
        }
    }

    private static void withTheSignOfY() {
        for (int lane = 6; lane <= 7; lane++) {
            for (String x : new String[] {"0", "smallest", "below normal", "normal", "1", "greatest", "endless"}) {
                for (String y : new String[] {"0", "smallest", "1.5", "greatest", "endless"}) {
                    shaped(lane, word(lane, x), 7, word(lane, y), word(lane, x));
                    shaped(lane, word(lane, x), 7, word(lane, "-" + y), word(lane, "-" + x));
                    shaped(lane, word(lane, "-" + x), 7, word(lane, y), word(lane, x));
                    shaped(lane, word(lane, "-" + x), 7, word(lane, "-" + y), word(lane, "-" + x));
                }
            }
        }
    }

    // What is left has the sign of x, whatever the sign of y.
    private static void leftBoth(int lane, long x, long y, long want) {
        long sign = lane == 6 ? -1L << 31 : Long.MIN_VALUE;
        shaped(lane, x, 8, y, want);
        shaped(lane, x, 8, y | sign, want);
        shaped(lane, x | sign, 8, y, want | sign);
        shaped(lane, x | sign, 8, y | sign, want | sign);
    }

    private static void left(String x, String y, String want) {
        for (int lane = 6; lane <= 7; lane++) leftBoth(lane, word(lane, x), word(lane, y), word(lane, want));
    }

    private static void leftOfReals() {
        for (String y : new String[] {"smallest", "below normal", "normal", "1", "greatest", "endless"}) left("0", y, "0");
        for (String x : new String[] {"smallest", "below normal", "normal", "1", "greatest"}) {
            left(x, "endless", x);
            left(x, x, "0");
            left(x, "smallest", "0");
        }
        left("smallest", "below normal", "smallest");
        left("below normal", "normal", "below normal");
        left("normal", "below normal", "smallest");
        left("below 1", "1", "below 1");
        left("1", "1.5", "1");
        left("1.5", "1", "half");
        left("2.5", "1", "half");
        left("3.5", "2", "1.5");
        left("last half", "1", "half");
        left("all whole", "1", "0");
        // Twice the first normal number, and the next one above that: what is left is below normal.
        leftBoth(6, 0x01000001L, 0x01000000L, 0x00000002L);
        leftBoth(7, 0x0020000000000001L, 0x0020000000000000L, 0x0000000000000002L);
        // 2.5 less twice what is right above 1: eight steps below a half.
        leftBoth(6, word(6, "2.5"), word(6, "above 1"), 0x3efffff8L);
        leftBoth(7, word(7, "2.5"), word(7, "above 1"), 0x3fdffffffffffff8L);
    }

    // The farthest that x and y can be apart. The greatest float is 3 times a whole one, the greatest double is not.
    private static void leftOfTheGreatest() {
        left("greatest", "normal", "0");
        left("greatest", "1", "0");
        left("greatest", "2", "0");
        leftBoth(6, word(6, "greatest"), word(6, "3"), 0);
        leftBoth(7, word(7, "greatest"), word(7, "3"), word(7, "2"));
        leftBoth(6, word(6, "greatest"), 0x00000003L, 0);
        leftBoth(7, word(7, "greatest"), 0x0000000000000003L, 0x0000000000000002L);
        leftBoth(6, word(6, "greatest"), word(6, "below normal"), 0x00000001L);
        leftBoth(7, word(7, "greatest"), word(7, "below normal"), 0x0000000000020000L);
        leftBoth(6, word(6, "greatest"), 0x00800001L, 0x00000003L);
        leftBoth(7, word(7, "greatest"), 0x0010000000000001L, 0x0000000000060000L);
    }

    private static void asWhole(int lane, long x, long asLong, int asInt) {
        shaped(lane, x, 9, 0, asLong);
        shaped(lane, x, 10, 0, asInt);
    }

    private static void asWhole(String x, long asLong, int asInt) {
        for (int lane = 6; lane <= 7; lane++) asWhole(lane, word(lane, x), asLong, asInt);
    }

    private static void realsAsLongAndInt() {
        for (String x : new String[] {"0", "smallest", "below normal", "normal", "half", "below 1"}) {
            asWhole(x, 0, 0);
            asWhole("-" + x, 0, 0);
        }
        asWhole("1", 1, 1);
        asWhole("-1", -1, -1);
        asWhole("below 2", 1, 1);
        asWhole("-below 2", -1, -1);
        asWhole("2", 2, 2);
        for (String x : new String[] {"above a long", "greatest", "endless"}) {
            asWhole(x, Long.MAX_VALUE, MOST);
            asWhole("-" + x, Long.MIN_VALUE, LEAST);
        }
    }

    // The last number with a half in it and what follows it; right below 2 to the 31st, that itself, right above it; and
    // so of 2 to the 63rd; then the same below 0.
    private static void floatsAtTheEndsOfIntAndLong() {
        asWhole(6, word(6, "last half"), 8388607L, 8388607);
        asWhole(6, word(6, "-last half"), -8388607L, -8388607);
        asWhole(6, word(6, "all whole"), 8388608L, 8388608);
        asWhole(6, word(6, "above all whole"), 8388609L, 8388609);
        asWhole(6, 0x4effffffL, 2147483520L, 2147483520);
        asWhole(6, 0x4f000000L, 2147483648L, MOST);
        asWhole(6, 0x4f000001L, 2147483904L, MOST);
        asWhole(6, 0x5effffffL, 9223371487098961920L, MOST);
        asWhole(6, 0x5f000000L, Long.MAX_VALUE, MOST);
        asWhole(6, 0x5f000001L, Long.MAX_VALUE, MOST);
        asWhole(6, 0xceffffffL, -2147483520L, -2147483520);
        asWhole(6, 0xcf000000L, -2147483648L, LEAST);
        asWhole(6, 0xcf000001L, -2147483904L, LEAST);
        asWhole(6, 0xdeffffffL, -9223371487098961920L, LEAST);
        asWhole(6, 0xdf000000L, Long.MIN_VALUE, LEAST);
        asWhole(6, 0xdf000001L, Long.MIN_VALUE, LEAST);
    }

    // As for floats; besides 2147483647.0, the greatest int, and 2147483649.0, the first beyond the least one.
    private static void doublesAtTheEndsOfIntAndLong() {
        asWhole(7, 0x41dfffffffc00000L, 2147483647L, MOST);
        asWhole(7, 0x41dfffffffffffffL, 2147483647L, MOST);
        asWhole(7, 0x41e0000000000000L, 2147483648L, MOST);
        asWhole(7, word(7, "last half"), 4503599627370495L, MOST);
        asWhole(7, word(7, "-last half"), -4503599627370495L, LEAST);
        asWhole(7, word(7, "all whole"), 4503599627370496L, MOST);
        asWhole(7, word(7, "above all whole"), 4503599627370497L, MOST);
        asWhole(7, 0x43dfffffffffffffL, 9223372036854774784L, MOST);
        asWhole(7, 0x43e0000000000000L, Long.MAX_VALUE, MOST);
        asWhole(7, 0x43e0000000000001L, Long.MAX_VALUE, MOST);
        asWhole(7, 0xc1dfffffffc00000L, -2147483647L, -2147483647);
        asWhole(7, 0xc1dfffffffffffffL, -2147483647L, -2147483647);
        asWhole(7, 0xc1e0000000000000L, -2147483648L, LEAST);
        asWhole(7, 0xc1e00000001fffffL, -2147483648L, LEAST);
        asWhole(7, 0xc1e0000000200000L, -2147483649L, LEAST);
        asWhole(7, 0xc3dfffffffffffffL, -9223372036854774784L, LEAST);
        asWhole(7, 0xc3e0000000000000L, Long.MIN_VALUE, LEAST);
        asWhole(7, 0xc3e0000000000001L, Long.MIN_VALUE, LEAST);
    }

    // 5 to 8 alone have a y: what tells no number is no matter elsewhere; nor is a 0, but for 8 and 11.
    private static void wordsThatAreNoMatter() {
        for (int way : new int[] {0, 1, 2, 3, 4}) {
            shaped(6, word(6, "1"), way, 0x7fc00000L, word(6, "1"));
            shaped(7, word(7, "1"), way, 0x7ff8000000000000L, word(7, "1"));
        }
        for (int way : new int[] {9, 10}) {
            shaped(6, word(6, "1"), way, 0x7fc00000L, 1);
            shaped(7, word(7, "1"), way, 0x7ff8000000000000L, 1);
        }
        for (int way : new int[] {0, 5, 9, 10}) {
            shaped(4, 6, way, 0, 6);
            shaped(5, 6, way, 0, 6);
        }
        shaped(6, word(6, "endless"), 5, 0, word(6, "endless"));
        shaped(7, word(7, "endless"), 7, 0, word(7, "endless"));
        // A float's y is told by the lowest 32 bits, so that what stands above them is no matter.
        shaped(6, word(6, "1.5"), 8, 0x7ff800003f800000L, word(6, "half"));
        shaped(6, word(6, "1"), 6, 0x7ff8000000000000L, 0);
    }

    private static void nothingIsChangedButSeen() {
        for (int lane = 4; lane <= 7; lane++) {
            PatchAsks p = Stand.rack();
            long ahead = p.digest();
            for (int way = 0; way <= 11; way++) p.shape(lane, 0, way, 2);
            CHECK.due("15: the numbers stay, lane " + lane, p.digest(), ahead);
            CHECK.due("15: the trace stays, lane " + lane, p.about(1), 7);
        }
    }
}
