import java.util.Arrays;

/** A rack of 24 boxes that hold curves, sheets, banks and voices; ../shared/DOC.md says what each call promises. */
public final class PatchAsks {
    public static final int NONE = -1, UNKNOWN = -101, OUTSIDE = -102, FULL = -104;

    private static final int BOXES = 24, MOST_NUMBERS = 16, MOST_PLACES = 8, MOST_VOICES = 40, MOST_TRACED = 100;

    private static final int NULL = 1, INDEX = 2, CAST = 3, STORE = 4, SIZE = 5, ZERO = 6, TROUBLE = 7;

    private static final int TRUTH = 0, BYTE = 1, CHAR = 2, SHORT = 3, INT = 4, LONG = 5, FLOAT = 6, DOUBLE = 7;

    private static final int TONE = 0, BELL = 1, CHIME = 2, NOISE = 3, WIND = 4, DRUM = 5, ANY_VOICE = 6;

    // What what() tells, and what is() and width() are asked for, beyond the lanes.
    private static final int A_SHEET = 8, A_BANK = 9, BANKS = 10, VOICES = 20;
    private static final int IS_HEARD = 30, IS_COMPARABLE = 31, IS_HEARD_BANK = 32;

    private static final int OF_SIZE = 0, FLOOR = 1, CEILING = 2, NEAREST = 3, SIGN = 4, GREATER = 5, LESSER = 6,
            SIGNED_AS = 7, LEFT = 8, AS_LONG = 9, AS_INT = 10, DIVIDED = 11;

    private static final int OF_LEVEL = 0, OF_OWN_LEVEL = 1, OF_SKIN = 2;

    private static final int COLOUR = 0, STRENGTH = 1, PLAY = 2, HEARD = 3, EDITS = 4, NUMBER = 5;

    private final Thing[] boxes = new Thing[BOXES];
    private final Trace bodies = new Trace();
    private final int[] counts = new int[TROUBLE + 1];
    private final Reals floats = new Reals(8, 23);
    private final Reals doubles = new Reals(11, 52);
    private int latest;
    private int voicesMade;
    private int turnsDone;
    private long shown;

    public PatchAsks() {
    }

    // ---- things

    public int curve(int b, int lane, int n) {
        if (isNoBox(b)) return UNKNOWN;
        if (isNoLane(lane) || n > MOST_NUMBERS) return OUTSIDE;
        if (n < 0) return found(SIZE);
        boxes[b] = new Curve(lane, new long[n]);
        return n;
    }

    public int sheet(int b, int n, int m) {
        if (isNoBox(b)) return UNKNOWN;
        if (n > MOST_PLACES || m < 0 || m > MOST_PLACES) return OUTSIDE;
        if (n < 0) return found(SIZE);
        boxes[b] = new Sheet(new long[n][m]);
        return n;
    }

    public int bank(int b, int kind, int n) {
        if (isNoBox(b)) return UNKNOWN;
        if (kind < TONE || kind > ANY_VOICE || n > MOST_PLACES) return OUTSIDE;
        if (n < 0) return found(SIZE);
        boxes[b] = new Bank(kind, new Voice[n]);
        return n;
    }

    public int voice(int b, int kind) {
        if (isNoBox(b)) return UNKNOWN;
        if (kind < TONE || kind > DRUM) return OUTSIDE;
        if (voicesMade >= MOST_VOICES) return FULL;
        int number = voicesMade;
        boxes[b] = new Voice(number, kind);
        voicesMade++;
        return number;
    }

    public int share(int b, int c) {
        if (isNoBox(b) || isNoBox(c)) return UNKNOWN;
        boxes[c] = boxes[b];
        return sortOf(boxes[c]);
    }

    public int clear(int b) {
        if (isNoBox(b)) return UNKNOWN;
        int told = sortOf(boxes[b]);
        boxes[b] = null;
        return told;
    }

    public int what(int b) {
        if (isNoBox(b)) return UNKNOWN;
        return sortOf(boxes[b]);
    }

    public int is(int b, int q) {
        if (isNoBox(b)) return UNKNOWN;
        if (isNoQuestion(q)) return OUTSIDE;
        return isAsAsked(boxes[b], q) ? 1 : 0;
    }

    public int width(int b, int sort) {
        if (isNoBox(b)) return UNKNOWN;
        if (sort < TRUTH || sort > A_BANK) return OUTSIDE;
        Thing thing = boxes[b];
        if (thing instanceof Curve curve && curve.lane == sort) return curve.words.length;
        if (thing instanceof Sheet sheet && sort == A_SHEET) return sheet.lines.length;
        if (thing instanceof Bank bank && sort == A_BANK) return bank.places.length;
        return foundUnfit(thing);
    }

    // ---- curves

    public int read(int b, int lane, int i) {
        if (isNoBox(b)) return UNKNOWN;
        if (isNoLane(lane)) return OUTSIDE;
        if (!(boxes[b] instanceof Curve curve) || curve.lane != lane) return foundUnfit(boxes[b]);
        if (isNoPlace(i, curve.words.length)) return found(INDEX);
        shown = curve.words[i];
        return 0;
    }

    public int write(int b, int lane, int i, long word) {
        if (isNoBox(b)) return UNKNOWN;
        if (isNoLane(lane) || tellsNoNumber(lane, word)) return OUTSIDE;
        if (!(boxes[b] instanceof Curve curve) || curve.lane != lane) return foundUnfit(boxes[b]);
        if (isNoPlace(i, curve.words.length)) return found(INDEX);
        curve.words[i] = wordIn(lane, word);
        return 0;
    }

    public int copy(int b, int i, int c, int j, int n) {
        if (isNoBox(b) || isNoBox(c)) return UNKNOWN;
        if (!(boxes[b] instanceof Curve from)) return foundUnfit(boxes[b]);
        if (!(boxes[c] instanceof Curve to) || to.lane != from.lane) return foundUnfit(boxes[c]);
        if (isNoStretch(i, n, from.words.length) || isNoStretch(j, n, to.words.length)) return found(INDEX);
        System.arraycopy(from.words, i, to.words, j, n);
        return 0;
    }

    public int grow(int b, int n) {
        if (isNoBox(b)) return UNKNOWN;
        if (n > MOST_NUMBERS) return OUTSIDE;
        if (!(boxes[b] instanceof Curve curve)) return foundUnfit(boxes[b]);
        if (n < 0) return found(SIZE);
        boxes[b] = new Curve(curve.lane, Arrays.copyOf(curve.words, n));
        return n;
    }

    public int shape(int b, int i, int way, long word) {
        if (isNoBox(b)) return UNKNOWN;
        if (way < OF_SIZE || way > DIVIDED) return OUTSIDE;
        if (!(boxes[b] instanceof Curve curve) || !hasWay(curve.lane, way)) return foundUnfit(boxes[b]);
        int lane = curve.lane;
        if (takesWord(way) && tellsNoNumber(lane, word)) return OUTSIDE;
        if (isNoPlace(i, curve.words.length)) return found(INDEX);
        long x = curve.words[i];
        long y = wordIn(lane, word);
        if (dividesByZero(lane, way, x, y)) return found(ZERO);
        shown = isReal(lane) ? realsOf(lane).shaped(way, x, y) : wholeShaped(lane, way, x, y);
        return 0;
    }

    public long seen() {
        return shown;
    }

    // ---- sheets, banks

    public int line(int b, int i, int k) {
        if (isNoBox(b)) return UNKNOWN;
        int finding = lineFinding(boxes[b], i, k);
        if (finding != 0) return found(finding);
        if (boxes[b] instanceof Sheet sheet) shown = sheet.lines[i][k];
        return 0;
    }

    public int rule(int b, int i, int k, int v) {
        if (isNoBox(b)) return UNKNOWN;
        int finding = lineFinding(boxes[b], i, k);
        if (finding != 0) return found(finding);
        if (boxes[b] instanceof Sheet sheet) sheet.lines[i][k] = v;
        return 0;
    }

    public int lay(int b, int i, int c) {
        if (isNoBox(b) || isNoBox(c)) return UNKNOWN;
        Thing under = boxes[b];
        if (under != null && !(under instanceof Sheet)) return found(CAST);
        long[] row = null;
        if (boxes[c] instanceof Curve curve && curve.lane == INT) row = curve.words;
        if (row == null && boxes[c] != null) return found(CAST);
        if (!(under instanceof Sheet sheet)) return found(NULL);
        if (isNoPlace(i, sheet.lines.length)) return found(INDEX);
        sheet.lines[i] = row;
        return 0;
    }

    public int set(int b, int i, int c) {
        if (isNoBox(b) || isNoBox(c)) return UNKNOWN;
        Thing under = boxes[b];
        if (under != null && !(under instanceof Bank)) return found(CAST);
        Voice placed = boxes[c] instanceof Voice voice ? voice : null;
        if (placed == null && boxes[c] != null) return found(CAST);
        if (!(under instanceof Bank bank)) return found(NULL);
        if (isNoPlace(i, bank.places.length)) return found(INDEX);
        if (placed != null && !isSuch(placed.kind, bank.kind)) return found(STORE);
        bank.places[i] = placed;
        return 0;
    }

    public int get(int b, int i) {
        if (isNoBox(b)) return UNKNOWN;
        if (!(boxes[b] instanceof Bank bank)) return foundUnfit(boxes[b]);
        if (isNoPlace(i, bank.places.length)) return found(INDEX);
        return numberOf(bank.places[i]);
    }

    public int take(int b, int i, int c) {
        if (isNoBox(b) || isNoBox(c)) return UNKNOWN;
        if (!(boxes[b] instanceof Bank bank)) return foundUnfit(boxes[b]);
        if (isNoPlace(i, bank.places.length)) return found(INDEX);
        Voice taken = bank.places[i];
        boxes[c] = taken;
        return numberOf(taken);
    }

    // ---- voices

    public int level(int b, int as) {
        if (isNoBox(b)) return UNKNOWN;
        if (as < OF_LEVEL || as > OF_SKIN) return OUTSIDE;
        if (!(boxes[b] instanceof Voice voice) || !hasLevel(voice.kind, as)) return foundUnfit(boxes[b]);
        shown = as == OF_LEVEL ? voice.level : as == OF_OWN_LEVEL ? voice.ownLevel : voice.skin;
        return 0;
    }

    public int raise(int b, int as, int v) {
        if (isNoBox(b)) return UNKNOWN;
        if (as < OF_LEVEL || as > OF_SKIN) return OUTSIDE;
        if (!(boxes[b] instanceof Voice voice) || !hasLevel(voice.kind, as)) return foundUnfit(boxes[b]);
        if (as == OF_LEVEL) voice.level = v;
        else if (as == OF_OWN_LEVEL) voice.ownLevel = v;
        else voice.skin = v;
        return 0;
    }

    public int ask(int b, int what) {
        bodies.count = 0;
        if (isNoBox(b)) return UNKNOWN;
        if (what < COLOUR || what > NUMBER) return OUTSIDE;
        if (!(boxes[b] instanceof Voice voice)) return foundUnfit(boxes[b]);
        if (what == HEARD && !isHeardKind(voice.kind)) return found(CAST);
        shown = answerOf(voice, what);
        return 0;
    }

    public int turn(int b, int by) {
        bodies.count = 0;
        if (isNoBox(b)) return UNKNOWN;
        if (!(boxes[b] instanceof Voice voice)) return foundUnfit(boxes[b]);
        voice.turnBy(by, bodies);
        turnsDone++;
        shown = voice.level;
        return 0;
    }

    public int arm(int b, boolean on) {
        if (isNoBox(b)) return UNKNOWN;
        if (!(boxes[b] instanceof Voice voice)) return foundUnfit(boxes[b]);
        voice.troubled = on;
        return 0;
    }

    public int fail(int b) {
        if (isNoBox(b)) return UNKNOWN;
        if (!(boxes[b] instanceof Voice voice)) return foundUnfit(boxes[b]);
        return found(voice.troubled ? TROUBLE : NULL);
    }

    // ---- what is told

    public int trace(int k) {
        return isNoPlace(k, bodies.count) ? NONE : bodies.numbers[k];
    }

    public int finding() {
        return latest;
    }

    public int findings(int f) {
        if (f < NULL || f > TROUBLE) return OUTSIDE;
        return counts[f];
    }

    public int about(int what) {
        switch (what) {
            case 0: return voicesMade;
            case 1: return bodies.count;
            case 2: return boxesInUse();
            case 3: return turnsDone;
            default: return OUTSIDE;
        }
    }

    public long digest() {
        long h = 17;
        for (Thing thing : boxes) {
            h = joined(h, sortOf(thing));
            if (thing != null) h = thing.joinedOnto(h);
        }
        return h;
    }

    // ---- refusals and findings

    private static boolean isNoBox(int b) {
        return b < 0 || b >= BOXES;
    }

    private static boolean isNoLane(int lane) {
        return lane < TRUTH || lane > DOUBLE;
    }

    private static boolean isNoPlace(int i, int length) {
        return i < 0 || i >= length;
    }

    // An empty stretch may begin right behind the last number; the difference cannot wrap, as n is not below 0.
    private static boolean isNoStretch(int i, int n, int length) {
        return i < 0 || n < 0 || i > length - n;
    }

    private int found(int finding) {
        latest = finding;
        counts[finding]++;
        return -10 - finding;
    }

    private int foundUnfit(Thing thing) {
        return found(thing == null ? NULL : CAST);
    }

    private static int lineFinding(Thing thing, int i, int k) {
        if (thing == null) return NULL;
        if (!(thing instanceof Sheet sheet)) return CAST;
        if (isNoPlace(i, sheet.lines.length)) return INDEX;
        long[] row = sheet.lines[i];
        if (row == null) return NULL;
        return isNoPlace(k, row.length) ? INDEX : 0;
    }

    // ---- what things are

    private static int sortOf(Thing thing) {
        return thing == null ? NONE : thing.sort();
    }

    private static int numberOf(Voice voice) {
        return voice == null ? NONE : voice.number;
    }

    private int boxesInUse() {
        int used = 0;
        for (Thing thing : boxes) {
            if (thing != null) used++;
        }
        return used;
    }

    private static boolean isNoQuestion(int q) {
        boolean ofRows = q >= TRUTH && q <= A_SHEET;
        boolean ofBanks = q >= BANKS && q <= BANKS + ANY_VOICE;
        boolean ofVoices = q >= VOICES && q <= VOICES + ANY_VOICE;
        return !(ofRows || ofBanks || ofVoices || q >= IS_HEARD && q <= IS_HEARD_BANK);
    }

    private static boolean isAsAsked(Thing thing, int q) {
        if (q == IS_COMPARABLE) return false;
        if (thing instanceof Bank bank) {
            return q == IS_HEARD_BANK ? isHeardKind(bank.kind) : isSuch(bank.kind, q - BANKS);
        }
        if (thing instanceof Voice voice) {
            return q == IS_HEARD ? isHeardKind(voice.kind) : isSuch(voice.kind, q - VOICES);
        }
        return thing != null && thing.sort() == q;
    }

    /** Whether what is of a kind is of the asked one, too; an asked number that is no kind is never met. */
    private static boolean isSuch(int kind, int asked) {
        switch (asked) {
            case TONE: return kind == TONE || kind == BELL || kind == CHIME;
            case BELL: return kind == BELL || kind == CHIME;
            case NOISE: return kind == NOISE || kind == WIND || kind == DRUM;
            case CHIME, WIND, DRUM: return kind == asked;
            case ANY_VOICE: return true;
            default: return false;
        }
    }

    private static boolean isHeardKind(int kind) {
        return isSuch(kind, TONE) || kind == DRUM;
    }

    private static boolean hasLevel(int kind, int as) {
        return as == OF_LEVEL || isSuch(kind, as == OF_OWN_LEVEL ? BELL : DRUM);
    }

    private int answerOf(Voice voice, int what) {
        switch (what) {
            case COLOUR: return voice.colour(bodies);
            case STRENGTH: return voice.strength(bodies);
            case PLAY: return voice.play(bodies);
            case HEARD: return voice.heard(bodies);
            case EDITS: return voice.edits;
            default: return voice.number;
        }
    }

    private static long joined(long h, long number) {
        return 31 * h + number;
    }

    // ---- words and lanes

    private static boolean isReal(int lane) {
        return lane == FLOAT || lane == DOUBLE;
    }

    private Reals realsOf(int lane) {
        return lane == FLOAT ? floats : doubles;
    }

    /** The word of the number that any long tells in a lane. */
    private static long wordIn(int lane, long word) {
        switch (lane) {
            case TRUTH: return word & 1;
            case BYTE: return (byte) word;
            case CHAR: return (char) word;
            case SHORT: return (short) word;
            case INT, FLOAT: return (int) word;
            default: return word;
        }
    }

    private boolean tellsNoNumber(int lane, long word) {
        return isReal(lane) && realsOf(lane).isNoNumber(wordIn(lane, word));
    }

    private static boolean hasWay(int lane, int way) {
        if (isReal(lane)) return way != DIVIDED;
        boolean forRealsAlone = way >= FLOOR && way <= SIGN || way == SIGNED_AS;
        return (lane == INT || lane == LONG) && !forRealsAlone;
    }

    private static boolean takesWord(int way) {
        return way >= GREATER && way <= LEFT;
    }

    private boolean dividesByZero(int lane, int way, long x, long y) {
        if (way != LEFT && way != DIVIDED) return false;
        if (!isReal(lane)) return y == 0;
        Reals reals = realsOf(lane);
        return reals.isZero(y) || reals.isEndless(x);
    }

    private static long wholeShaped(int lane, int way, long x, long y) {
        switch (way) {
            // The least int has a size as a long: its word as an int is the least one again.
            case OF_SIZE: return wordIn(lane, Math.abs(x));
            case GREATER: return Math.max(x, y);
            case LESSER: return Math.min(x, y);
            case LEFT: return y == 0 ? 0 : x % y;
            case AS_INT: return (int) x;
            case DIVIDED: return y == 0 ? 0 : wordIn(lane, x / y);
            default: return x;
        }
    }

    // ---- the things themselves

    private abstract static class Thing {
        abstract int sort();

        abstract long joinedOnto(long h);
    }

    /** Its words are always those that its lane has, so that they can be told and joined as they are. */
    private static final class Curve extends Thing {
        final int lane;
        final long[] words;

        Curve(int lane, long[] words) {
            this.lane = lane;
            this.words = words;
        }

        int sort() {
            return lane;
        }

        long joinedOnto(long h) {
            h = joined(h, words.length);
            for (long word : words) h = joined(h, word);
            return h;
        }
    }

    /** Its lines are rows of words of ints, so that a curve's own row can be laid in as it is. */
    private static final class Sheet extends Thing {
        final long[][] lines;

        Sheet(long[][] lines) {
            this.lines = lines;
        }

        int sort() {
            return A_SHEET;
        }

        long joinedOnto(long h) {
            h = joined(h, lines.length);
            for (long[] row : lines) {
                h = joined(h, row == null ? NONE : row.length);
                if (row == null) continue;
                for (long word : row) h = joined(h, word);
            }
            return h;
        }
    }

    private static final class Bank extends Thing {
        final int kind;
        final Voice[] places;

        Bank(int kind, Voice[] places) {
            this.kind = kind;
            this.places = places;
        }

        int sort() {
            return BANKS + kind;
        }

        long joinedOnto(long h) {
            h = joined(h, places.length);
            for (Voice voice : places) h = joined(h, numberOf(voice));
            return h;
        }
    }

    /** Where one body goes on to the one above it, both write their numbers here, in that order. */
    private static final class Voice extends Thing {
        final int number;
        final int kind;
        int level;
        int ownLevel;
        int skin;
        int edits;
        boolean troubled;

        Voice(int number, int kind) {
            this.number = number;
            this.kind = kind;
        }

        int sort() {
            return VOICES + kind;
        }

        long joinedOnto(long h) {
            h = joined(h, number);
            h = joined(h, level);
            h = joined(h, ownLevel);
            h = joined(h, skin);
            h = joined(h, edits);
            return joined(h, troubled ? 1 : 0);
        }

        int colour(Trace trace) {
            int more = 0;
            if (isSuch(kind, BELL)) {
                trace.add(2);
                more = ownLevel;
            } else if (kind == WIND) {
                trace.add(3);
                more = -1;
            }
            trace.add(1);
            return level + more;
        }

        int strength(Trace trace) {
            int strength = 3;
            if (kind == WIND) trace.add(12);
            if (isSuch(kind, NOISE)) {
                trace.add(11);
                strength = 6;
            }
            trace.add(10);
            return kind == WIND ? strength + 1 : strength;
        }

        int play(Trace trace) {
            return isSuch(kind, TONE) ? tonePlay(trace) : noisePlay(trace);
        }

        private int tonePlay(Trace trace) {
            if (kind == CHIME) trace.add(21);
            trace.add(20);
            int played = 2 * colour(trace);
            return kind == CHIME ? played + strength(trace) : played;
        }

        private int noisePlay(Trace trace) {
            if (kind == DRUM) trace.add(23);
            trace.add(22);
            int played = -colour(trace);
            return kind == DRUM ? played + 7 * skin : played;
        }

        int heard(Trace trace) {
            if (kind == DRUM) {
                trace.add(31);
                int strength = strength(trace);
                return strength - play(trace);
            }
            trace.add(30);
            int played = play(trace);
            return played + strength(trace);
        }

        void turnBy(int by, Trace trace) {
            if (isSuch(kind, BELL)) {
                trace.add(41);
                ownLevel -= by;
            }
            trace.add(40);
            level += by;
            edits++;
        }
    }

    private static final class Trace {
        final int[] numbers = new int[MOST_TRACED];
        int count;

        void add(int number) {
            if (count >= numbers.length) return;
            numbers[count] = number;
            count++;
        }
    }

    /**
     * Floats or doubles, worked on as their words alone: the language has no way from bits to numbers.
     * A word below 0 has the sign; a float's word is an int's, so its sign fills all bits from 31 up.
     */
    private static final class Reals {
        final int fractionBits;
        final int bias;
        final long sign;
        final long hidden;
        final long endless;
        final long one;

        Reals(int exponentBits, int fractionBits) {
            this.fractionBits = fractionBits;
            bias = (1 << (exponentBits - 1)) - 1;
            sign = -1L << (exponentBits + fractionBits);
            hidden = 1L << fractionBits;
            endless = ((1L << exponentBits) - 1) << fractionBits;
            one = (long) bias << fractionBits;
        }

        boolean isNoNumber(long x) {
            return sizeOf(x) > endless;
        }

        boolean isEndless(long x) {
            return sizeOf(x) == endless;
        }

        boolean isZero(long x) {
            return sizeOf(x) == 0;
        }

        long shaped(int way, long x, long y) {
            switch (way) {
                case OF_SIZE: return sizeOf(x);
                case FLOOR: return x < 0 && !isWhole(x) ? stepOut(cut(x)) : cut(x);
                case CEILING: return x > 0 && !isWhole(x) ? stepOut(cut(x)) : cut(x);
                case NEAREST: return nearest(x);
                case SIGN: return isZero(x) ? x : x & sign | one;
                case GREATER: return rank(x) >= rank(y) ? x : y;
                case LESSER: return rank(x) <= rank(y) ? x : y;
                case SIGNED_AS: return sizeOf(x) | y & sign;
                case LEFT: return left(x, y);
                case AS_LONG: return asLong(x);
                case AS_INT: return Math.max(Integer.MIN_VALUE, Math.min(Integer.MAX_VALUE, asLong(x)));
                default: return x;
            }
        }

        private long sizeOf(long x) {
            return x & ~sign;
        }

        private int exponentOf(long x) {
            return (int) (sizeOf(x) >> fractionBits) - bias;
        }

        // Words with the sign grow as their numbers fall; -0.0 comes right below 0.0.
        private long rank(long x) {
            return x < 0 ? -1 - sizeOf(x) : x;
        }

        private boolean isWhole(long x) {
            return cut(x) == x;
        }

        /** The whole number next to x on the side of 0, with the sign of x. */
        private long cut(long x) {
            int exponent = exponentOf(x);
            if (exponent < 0) return x & sign;
            if (exponent >= fractionBits) return x;
            return x & ~((hidden - 1) >> exponent);
        }

        /** The next whole number away from 0, of what lost something as it was cut: only there has 1 a place in it. */
        private long stepOut(long whole) {
            return isZero(whole) ? whole | one : whole + unitOf(whole);
        }

        // What 1 is in the word of a size from 1 on; where adding it carries, the exponent rightly becomes one more.
        private long unitOf(long x) {
            return hidden >> exponentOf(x);
        }

        private long nearest(long x) {
            long whole = cut(x);
            if (whole == x) return x;
            int exponent = exponentOf(x);
            if (exponent < -1) return whole;
            boolean isHalf = sizeOf(x) == one - hidden;
            if (exponent == -1) return isHalf ? whole : stepOut(whole);
            long unit = unitOf(x);
            long twice = 2 * (x & (unit - 1));
            // Of a size of 1 this bit is the exponent's lowest: it is 1, since the bias is odd, as 1 is.
            boolean isOdd = (whole & unit) != 0;
            return twice > unit || twice == unit && isOdd ? stepOut(whole) : whole;
        }

        private long asLong(long x) {
            int exponent = exponentOf(x);
            if (exponent < 0) return 0;
            if (exponent >= 63) return x < 0 ? Long.MIN_VALUE : Long.MAX_VALUE;
            int up = exponent - fractionBits;
            long size = up >= 0 ? mantissaOf(x) << up : mantissaOf(x) >> -up;
            return x < 0 ? -size : size;
        }

        // A size is its mantissa, doubled as often as its scale tells, in halves of the least size above 0.
        private long mantissaOf(long x) {
            long fraction = x & (hidden - 1);
            return sizeOf(x) < hidden ? fraction : fraction | hidden;
        }

        private int scaleOf(long x) {
            return Math.max(1, exponentOf(x) + bias);
        }

        private long left(long x, long y) {
            if (isZero(y) || sizeOf(x) < sizeOf(y)) return x;
            long divisor = mantissaOf(y);
            int scale = scaleOf(y);
            long rest = mantissaOf(x) % divisor;
            // Ten bits at once are the most that a rest of 53 bits can be moved by and stay a long above 0.
            for (int bits = scaleOf(x) - scale; bits > 0; bits -= 10) {
                rest = (rest << Math.min(bits, 10)) % divisor;
            }
            return x & sign | sizeFrom(rest, scale);
        }

        private long sizeFrom(long mantissa, int scale) {
            if (mantissa == 0) return 0;
            while (mantissa < hidden && scale > 1) {
                mantissa <<= 1;
                scale--;
            }
            return mantissa < hidden ? mantissa : mantissa - hidden + ((long) scale << fractionBits);
        }
    }
}
