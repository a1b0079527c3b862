import java.util.Random;

/** Words for the tests: the edges of each lane, and random ones of every size. */
final class Words {
    static final float[] FLOATS = {0f, 0.25f, 0.5f, 0.75f, 1f, 1.5f, 2f, 2.5f, 3.5f, 7f, 1e-40f, 1e30f, 8388607.5f,
        4194304.5f, 8388608f, 16777216f, 2147483648f, 2147483520f, 9.223372e18f, 9.2233715e18f, Float.MIN_VALUE,
        Float.MIN_NORMAL, Float.MAX_VALUE, Float.POSITIVE_INFINITY, Math.nextDown(0.5f), Math.nextUp(0.5f),
        Math.nextDown(1f), Math.nextDown(1.5f), Math.nextUp(2.5f)};
    static final double[] DOUBLES = {0, 0.25, 0.5, 0.75, 1, 1.5, 2, 2.5, 3.5, 7, 1e-310, 1e300, 4503599627370495.5,
        2251799813685248.5, 4503599627370496.0, 9007199254740992.0, 2147483647.0, 2147483647.5, 2147483648.0,
        2147483648.5, 2147483649.0, 9223372036854775807.0, Math.nextDown(9223372036854775807.0), Double.MIN_VALUE,
        Double.MIN_NORMAL, Double.MAX_VALUE, Double.POSITIVE_INFINITY, Math.nextDown(0.5), Math.nextUp(0.5),
        Math.nextDown(1.0), Math.nextDown(1.5), Math.nextUp(2.5)};
    static final long[] WHOLES = {0, 1, -1, 2, -2, 7, -7, 127, 128, -128, 255, 256, 32767, 32768, 65535, 65536,
        Integer.MAX_VALUE, Integer.MIN_VALUE, 1L << 31, 1L << 32, -1L << 32, Long.MAX_VALUE, Long.MIN_VALUE};

    private Words() {
    }

    static long any(Random random, int lane) {
        if (random.nextInt(60) == 0) return lane == 6 ? 0x7fc00000L : 0x7ff8000000000000L;
        boolean below = random.nextBoolean();
        if (lane == 6) {
            float f = random.nextInt(3) == 0 ? random.nextFloat() * 10 : FLOATS[random.nextInt(FLOATS.length)];
            long high = random.nextInt(8) == 0 ? random.nextLong() << 32 : 0;
            return random.nextInt(5) == 0 ? random.nextInt() : high ^ Float.floatToRawIntBits(below ? -f : f);
        }
        if (lane == 7) {
            double d = random.nextInt(3) == 0 ? random.nextDouble() * 10 : DOUBLES[random.nextInt(DOUBLES.length)];
            return random.nextInt(5) == 0 ? random.nextLong() : Double.doubleToRawLongBits(below ? -d : d);
        }
        return random.nextInt(3) == 0 ? random.nextLong() : WHOLES[random.nextInt(WHOLES.length)];
    }
}
