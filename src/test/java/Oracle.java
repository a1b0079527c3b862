/**
 * The document's promises worked out another way: by real Java classes, arrays and numbers, with the machine's own
 * exceptions as FINDINGS. It shares no code with the program, so that random runs of both can be compared.
 */
final class Oracle {
    static final int NONE = -1, UNKNOWN = -101, OUTSIDE = -102, FULL = -104;

    interface Heard {
        int heard();
    }

    static final class Troubled extends RuntimeException {
        private static final long serialVersionUID = 1;
    }

    abstract class Voice {
        final int number = made++;
        int level;
        int edits;
        Troubled trouble;

        int colour() {
            note(1);
            return level;
        }

        int strength() {
            note(10);
            return 3;
        }

        abstract int play();

        void turn(int by) {
            note(40);
            level += by;
            edits++;
        }
    }

    class Tone extends Voice implements Heard {
        int play() {
            note(20);
            return 2 * colour();
        }

        public int heard() {
            note(30);
            return play() + strength();
        }
    }

    class Bell extends Tone {
        int level;

        int colour() {
            note(2);
            return super.colour() + level;
        }

        void turn(int by) {
            note(41);
            level -= by;
            super.turn(by);
        }
    }

    class Chime extends Bell {
        int play() {
            note(21);
            return super.play() + strength();
        }
    }

    class Noise extends Voice {
        int strength() {
            note(11);
            return 2 * super.strength();
        }

        int play() {
            note(22);
            return -colour();
        }
    }

    class Wind extends Noise {
        int colour() {
            note(3);
            return super.colour() - 1;
        }

        int strength() {
            note(12);
            return super.strength() + 1;
        }
    }

    class Drum extends Noise implements Heard {
        int skin;

        int play() {
            note(23);
            return super.play() + 7 * skin;
        }

        public int heard() {
            note(31);
            return strength() - play();
        }
    }

    private static final Class<?>[] KINDS = {Tone.class, Bell.class, Chime.class, Noise.class, Wind.class, Drum.class,
        Voice.class};
    private static final Class<?>[] LANES = {boolean[].class, byte[].class, char[].class, short[].class, int[].class,
        long[].class, float[].class, double[].class};

    private final Object[] boxes = new Object[24];
    private final java.util.List<Integer> notes = new java.util.ArrayList<>();
    private final int[] counts = new int[8];
    private int latest;
    private int made;
    private int turns;
    private long seen;

    private void note(int body) {
        if (notes.size() < 100) notes.add(body);
    }

    private static boolean lacks(int b) {
        return b < 0 || b > 23;
    }

    private int found(RuntimeException e) {
        if (e instanceof NullPointerException) latest = 1;
        else if (e instanceof ArrayIndexOutOfBoundsException) latest = 2;
        else if (e instanceof ClassCastException) latest = 3;
        else if (e instanceof ArrayStoreException) latest = 4;
        else if (e instanceof NegativeArraySizeException) latest = 5;
        else if (e instanceof ArithmeticException) latest = 6;
        else if (e instanceof Troubled) latest = 7;
        else throw e;
        counts[latest]++;
        return -10 - latest;
    }

    int curve(int b, int lane, int n) {
        if (lacks(b)) return UNKNOWN;
        if (lane < 0 || lane > 7 || n > 16) return OUTSIDE;
        try {
            boxes[b] = java.lang.reflect.Array.newInstance(LANES[lane].getComponentType(), n);
            return n;
        } catch (NegativeArraySizeException e) {
            return found(e);
        }
    }

    int sheet(int b, int n, int m) {
        if (lacks(b)) return UNKNOWN;
        if (n > 8 || m < 0 || m > 8) return OUTSIDE;
        try {
            boxes[b] = new int[n][m];
            return n;
        } catch (NegativeArraySizeException e) {
            return found(e);
        }
    }

    int bank(int b, int kind, int n) {
        if (lacks(b)) return UNKNOWN;
        if (kind < 0 || kind > 6 || n > 8) return OUTSIDE;
        try {
            boxes[b] = java.lang.reflect.Array.newInstance(KINDS[kind], n);
            return n;
        } catch (NegativeArraySizeException e) {
            return found(e);
        }
    }

    int voice(int b, int kind) {
        if (lacks(b)) return UNKNOWN;
        if (kind < 0 || kind > 5) return OUTSIDE;
        if (made == 40) return FULL;
        Voice voice = switch (kind) {
            case 0 -> new Tone();
            case 1 -> new Bell();
            case 2 -> new Chime();
            case 3 -> new Noise();
            case 4 -> new Wind();
            default -> new Drum();
        };
        boxes[b] = voice;
        return voice.number;
    }

    int share(int b, int c) {
        if (lacks(b) || lacks(c)) return UNKNOWN;
        boxes[c] = boxes[b];
        return what(c);
    }

    int clear(int b) {
        int told = what(b);
        if (told != UNKNOWN) boxes[b] = null;
        return told;
    }

    int what(int b) {
        if (lacks(b)) return UNKNOWN;
        Object o = boxes[b];
        if (o == null) return NONE;
        if (o instanceof int[][]) return 8;
        for (int lane = 0; lane < 8; lane++) if (o.getClass() == LANES[lane]) return lane;
        for (int kind = 0; kind < 7; kind++) {
            if (o.getClass() == KINDS[kind].arrayType()) return 10 + kind;
            if (o.getClass() == KINDS[kind]) return 20 + kind;
        }
        throw new IllegalStateException();
    }

    int is(int b, int q) {
        if (lacks(b)) return UNKNOWN;
        Object o = boxes[b];
        boolean so;
        if (q >= 0 && q <= 7) so = LANES[q].isInstance(o);
        else if (q == 8) so = o instanceof int[][];
        else if (q >= 10 && q <= 16) so = KINDS[q - 10].arrayType().isInstance(o);
        else if (q >= 20 && q <= 26) so = KINDS[q - 20].isInstance(o);
        else if (q == 30) so = o instanceof Heard;
        else if (q == 31) so = o instanceof Comparable;
        else if (q == 32) so = o instanceof Heard[];
        else return OUTSIDE;
        return so ? 1 : 0;
    }

    int width(int b, int sort) {
        if (lacks(b)) return UNKNOWN;
        if (sort < 0 || sort > 9) return OUTSIDE;
        try {
            Object o = boxes[b];
            if (sort == 8) return ((int[][]) o).length;
            if (sort == 9) return ((Voice[]) o).length;
            return java.lang.reflect.Array.getLength(LANES[sort].cast(o));
        } catch (RuntimeException e) {
            return found(e);
        }
    }

    private static long wordAt(Object row, int i) {
        if (row instanceof boolean[] r) return r[i] ? 1 : 0;
        if (row instanceof byte[] r) return r[i];
        if (row instanceof char[] r) return r[i];
        if (row instanceof short[] r) return r[i];
        if (row instanceof int[] r) return r[i];
        if (row instanceof long[] r) return r[i];
        if (row instanceof float[] r) return Float.floatToRawIntBits(r[i]);
        return Double.doubleToRawLongBits(((double[]) row)[i]);
    }

    int read(int b, int lane, int i) {
        if (lacks(b)) return UNKNOWN;
        if (lane < 0 || lane > 7) return OUTSIDE;
        try {
            if (boxes[b] == null) throw new NullPointerException();
            seen = wordAt(LANES[lane].cast(boxes[b]), i);
            return 0;
        } catch (RuntimeException e) {
            return found(e);
        }
    }

    private static boolean isNaN(int lane, long word) {
        return lane == 6 && Float.isNaN(Float.intBitsToFloat((int) word))
            || lane == 7 && Double.isNaN(Double.longBitsToDouble(word));
    }

    int write(int b, int lane, int i, long word) {
        if (lacks(b)) return UNKNOWN;
        if (lane < 0 || lane > 7 || isNaN(lane, word)) return OUTSIDE;
        try {
            Object o = boxes[b];
            switch (lane) {
                case 0 -> ((boolean[]) o)[i] = (word & 1) == 1;
                case 1 -> ((byte[]) o)[i] = (byte) word;
                case 2 -> ((char[]) o)[i] = (char) word;
                case 3 -> ((short[]) o)[i] = (short) word;
                case 4 -> ((int[]) o)[i] = (int) word;
                case 5 -> ((long[]) o)[i] = word;
                case 6 -> ((float[]) o)[i] = Float.intBitsToFloat((int) word);
                default -> ((double[]) o)[i] = Double.longBitsToDouble(word);
            }
            return 0;
        } catch (RuntimeException e) {
            return found(e);
        }
    }

    private static boolean isCurve(Object o) {
        return o.getClass().isArray() && o.getClass().getComponentType().isPrimitive();
    }

    int copy(int b, int i, int c, int j, int n) {
        if (lacks(b) || lacks(c)) return UNKNOWN;
        try {
            Object from = boxes[b];
            if (!isCurve(from)) throw new ClassCastException();
            System.arraycopy(from, i, from.getClass().cast(boxes[c]), j, n);
            return 0;
        } catch (RuntimeException e) {
            return found(e);
        }
    }

    int grow(int b, int n) {
        if (lacks(b)) return UNKNOWN;
        if (n > 16) return OUTSIDE;
        try {
            Object from = boxes[b];
            if (!isCurve(from)) throw new ClassCastException();
            Object to = java.lang.reflect.Array.newInstance(from.getClass().getComponentType(), n);
            System.arraycopy(from, 0, to, 0, Math.min(n, java.lang.reflect.Array.getLength(from)));
            boxes[b] = to;
            return n;
        } catch (RuntimeException e) {
            return found(e);
        }
    }

    int shape(int b, int i, int way, long word) {
        if (lacks(b)) return UNKNOWN;
        if (way < 0 || way > 11) return OUTSIDE;
        try {
            Object o = boxes[b];
            boolean realsAlone = way >= 1 && way <= 4 || way == 7;
            if (o == null) throw new NullPointerException();
            if (!(o instanceof int[] || o instanceof long[] || o instanceof float[] || o instanceof double[])
                || realsAlone && (o instanceof int[] || o instanceof long[])
                || way == 11 && (o instanceof float[] || o instanceof double[])) throw new ClassCastException();
            if (way >= 5 && way <= 8 && isNaN(what(b), word)) return OUTSIDE;
            if (o instanceof int[] r) seen = shaped(r[i], way, (int) word);
            else if (o instanceof long[] r) seen = shaped(r[i], way, word);
            else if (o instanceof float[] r) seen = shaped(r[i], way, Float.intBitsToFloat((int) word));
            else seen = shaped(((double[]) o)[i], way, Double.longBitsToDouble(word));
            return 0;
        } catch (RuntimeException e) {
            return found(e);
        }
    }

    private static long shaped(int x, int way, int y) {
        return switch (way) {
            case 0 -> Math.abs(x);
            case 5 -> Math.max(x, y);
            case 6 -> Math.min(x, y);
            case 8 -> x % y;
            case 9, 10 -> x;
            default -> x / y;
        };
    }

    private static long shaped(long x, int way, long y) {
        return switch (way) {
            case 0 -> Math.abs(x);
            case 5 -> Math.max(x, y);
            case 6 -> Math.min(x, y);
            case 8 -> x % y;
            case 9 -> x;
            case 10 -> (int) x;
            default -> x / y;
        };
    }

    private static long shaped(float x, int way, float y) {
        if (way == 9) return (long) x;
        if (way == 10) return (int) x;
        if (way == 8 && (y == 0 || Float.isInfinite(x))) throw new ArithmeticException();
        return Float.floatToIntBits(switch (way) {
            case 0 -> Math.abs(x);
            case 1 -> (float) Math.floor(x);
            case 2 -> (float) Math.ceil(x);
            case 3 -> (float) Math.rint(x);
            case 4 -> Math.signum(x);
            case 5 -> Math.max(x, y);
            case 6 -> Math.min(x, y);
            case 7 -> Math.copySign(x, y);
            default -> x % y;
        });
    }

    private static long shaped(double x, int way, double y) {
        if (way == 9) return (long) x;
        if (way == 10) return (int) x;
        if (way == 8 && (y == 0 || Double.isInfinite(x))) throw new ArithmeticException();
        return Double.doubleToLongBits(switch (way) {
            case 0 -> Math.abs(x);
            case 1 -> Math.floor(x);
            case 2 -> Math.ceil(x);
            case 3 -> Math.rint(x);
            case 4 -> Math.signum(x);
            case 5 -> Math.max(x, y);
            case 6 -> Math.min(x, y);
            case 7 -> Math.copySign(x, y);
            default -> x % y;
        });
    }

    long seen() {
        return seen;
    }

    int line(int b, int i, int k) {
        if (lacks(b)) return UNKNOWN;
        try {
            seen = ((int[][]) boxes[b])[i][k];
            return 0;
        } catch (RuntimeException e) {
            return found(e);
        }
    }

    int rule(int b, int i, int k, int v) {
        if (lacks(b)) return UNKNOWN;
        try {
            ((int[][]) boxes[b])[i][k] = v;
            return 0;
        } catch (RuntimeException e) {
            return found(e);
        }
    }

    int lay(int b, int i, int c) {
        if (lacks(b) || lacks(c)) return UNKNOWN;
        try {
            int[][] sheet = (int[][]) boxes[b];
            int[] row = (int[]) boxes[c];
            sheet[i] = row;
            return 0;
        } catch (RuntimeException e) {
            return found(e);
        }
    }

    int set(int b, int i, int c) {
        if (lacks(b) || lacks(c)) return UNKNOWN;
        try {
            Voice[] bank = (Voice[]) boxes[b];
            Voice voice = (Voice) boxes[c];
            bank[i] = voice;
            return 0;
        } catch (RuntimeException e) {
            return found(e);
        }
    }

    private static int numberOf(Voice voice) {
        return voice == null ? NONE : voice.number;
    }

    int get(int b, int i) {
        if (lacks(b)) return UNKNOWN;
        try {
            return numberOf(((Voice[]) boxes[b])[i]);
        } catch (RuntimeException e) {
            return found(e);
        }
    }

    int take(int b, int i, int c) {
        if (lacks(b) || lacks(c)) return UNKNOWN;
        try {
            Voice voice = ((Voice[]) boxes[b])[i];
            boxes[c] = voice;
            return numberOf(voice);
        } catch (RuntimeException e) {
            return found(e);
        }
    }

    int level(int b, int as) {
        if (lacks(b)) return UNKNOWN;
        if (as < 0 || as > 2) return OUTSIDE;
        try {
            if (as == 0) seen = ((Voice) boxes[b]).level;
            else if (as == 1) seen = ((Bell) boxes[b]).level;
            else seen = ((Drum) boxes[b]).skin;
            return 0;
        } catch (RuntimeException e) {
            return found(e);
        }
    }

    int raise(int b, int as, int v) {
        if (lacks(b)) return UNKNOWN;
        if (as < 0 || as > 2) return OUTSIDE;
        try {
            if (as == 0) ((Voice) boxes[b]).level = v;
            else if (as == 1) ((Bell) boxes[b]).level = v;
            else ((Drum) boxes[b]).skin = v;
            return 0;
        } catch (RuntimeException e) {
            return found(e);
        }
    }

    int ask(int b, int what) {
        notes.clear();
        if (lacks(b)) return UNKNOWN;
        if (what < 0 || what > 5) return OUTSIDE;
        try {
            Object o = boxes[b];
            seen = switch (what) {
                case 0 -> ((Voice) o).colour();
                case 1 -> ((Voice) o).strength();
                case 2 -> ((Voice) o).play();
                case 3 -> ((Heard) o).heard();
                case 4 -> ((Voice) o).edits;
                default -> ((Voice) o).number;
            };
            return 0;
        } catch (RuntimeException e) {
            return found(e);
        }
    }

    int turn(int b, int by) {
        notes.clear();
        if (lacks(b)) return UNKNOWN;
        try {
            Voice voice = (Voice) boxes[b];
            voice.turn(by);
            seen = voice.level;
            turns++;
            return 0;
        } catch (RuntimeException e) {
            return found(e);
        }
    }

    int arm(int b, boolean on) {
        if (lacks(b)) return UNKNOWN;
        try {
            ((Voice) boxes[b]).trouble = on ? new Troubled() : null;
            return 0;
        } catch (RuntimeException e) {
            return found(e);
        }
    }

    int fail(int b) {
        if (lacks(b)) return UNKNOWN;
        try {
            throw ((Voice) boxes[b]).trouble;
        } catch (RuntimeException e) {
            return found(e);
        }
    }

    int trace(int k) {
        return k >= 0 && k < notes.size() ? notes.get(k) : NONE;
    }

    int finding() {
        return latest;
    }

    int findings(int f) {
        return f >= 1 && f <= 7 ? counts[f] : OUTSIDE;
    }

    int about(int what) {
        return switch (what) {
            case 0 -> made;
            case 1 -> notes.size();
            case 2 -> (int) java.util.Arrays.stream(boxes).filter(o -> o != null).count();
            case 3 -> turns;
            default -> OUTSIDE;
        };
    }

    long digest() {
        java.util.List<Long> all = new java.util.ArrayList<>();
        for (int b = 0; b < 24; b++) {
            Object o = boxes[b];
            all.add((long) what(b));
            if (o == null) continue;
            if (isCurve(o)) addRow(all, o);
            else if (o instanceof int[][] sheet) {
                all.add((long) sheet.length);
                for (int[] row : sheet) {
                    if (row == null) all.add(-1L);
                    else addRow(all, row);
                }
            } else if (o instanceof Voice[] bank) {
                all.add((long) bank.length);
                for (Voice voice : bank) all.add((long) numberOf(voice));
            } else addVoice(all, (Voice) o);
        }
        long h = 17;
        for (long number : all) h = 31 * h + number;
        return h;
    }

    private static void addRow(java.util.List<Long> all, Object row) {
        int n = java.lang.reflect.Array.getLength(row);
        all.add((long) n);
        for (int i = 0; i < n; i++) all.add(wordAt(row, i));
    }

    private static void addVoice(java.util.List<Long> all, Voice voice) {
        all.add((long) voice.number);
        all.add((long) voice.level);
        all.add(voice instanceof Bell bell ? (long) bell.level : 0L);
        all.add(voice instanceof Drum drum ? (long) drum.skin : 0L);
        all.add((long) voice.edits);
        all.add(voice.trouble == null ? 0L : 1L);
    }
}
