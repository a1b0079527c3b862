import java.util.function.ToIntBiFunction;

/**
 * The boundary cases that the document's terms name: boxes, words, what is there at first, THE TRACE, FINDINGS. A test
 * is named by its sentence. InsideTest has two that no call comes to.
 */
public final class TermsEdgesTest {
    private static final int NULL = -11, INDEX = -12, CAST = -13, STORE = -14, SIZE = -15, TROUBLE = -17;
    private static final int NONE = PatchAsks.NONE, UNKNOWN = PatchAsks.UNKNOWN, OUTSIDE = PatchAsks.OUTSIDE;
    private static final int LEAST = Integer.MIN_VALUE, MOST = Integer.MAX_VALUE;
    private static final Check CHECK = new Check("TermsEdgesTest");

    public static void main(String[] args) {
        boxesAre0To23();
        boxesHoldNothingAtFirst();
        severalBoxesMayHoldTheSame();
        truthsAreToldByTheLowestBit();
        bytesAreToldBy8Bits();
        charsAreToldBy16BitsFrom0On();
        shortsAreToldBy16Bits();
        intsAreToldBy32Bits();
        longsAreToldByAll();
        floatsAreToldByTheLowest32Bits();
        doublesAreToldByAll();
        voicesHaveAll0AndNoTroubleAtFirst();
        traceIsEmptiedByEachAskAndTurn();
        traceIsLeftByAllOthers();
        traceHasNoneOfEarlierAsks();
        findingsAreAnsweredAsMinus10LessThem();
        CHECK.end();
    }

    private static void due(String told, long got, long want) {
        CHECK.due(told, got, want);
    }

    private static void boxTaken(String call, ToIntBiFunction<PatchAsks, Integer> of) {
        for (int b : new int[] {0, 1, 22, 23}) {
            CHECK.holds(call + " takes box " + b, of.applyAsInt(new PatchAsks(), b) != UNKNOWN);
        }
        for (int b : new int[] {-1, 24, -2, 25, LEAST, MOST}) {
            due(call + ", box " + b, of.applyAsInt(new PatchAsks(), b), UNKNOWN);
        }
    }

    private static void boxesAre0To23() {
        boxTaken("curve", (x, b) -> x.curve(b, 0, 1));
        boxTaken("sheet", (x, b) -> x.sheet(b, 1, 1));
        boxTaken("bank", (x, b) -> x.bank(b, 0, 1));
        boxTaken("voice", (x, b) -> x.voice(b, 0));
        boxTaken("share b", (x, b) -> x.share(b, 5));
        boxTaken("share c", (x, b) -> x.share(5, b));
        boxTaken("clear", (x, b) -> x.clear(b));
        boxTaken("what", (x, b) -> x.what(b));
        boxTaken("is", (x, b) -> x.is(b, 0));
        boxTaken("width", (x, b) -> x.width(b, 0));
        boxTaken("read", (x, b) -> x.read(b, 0, 0));
        boxTaken("write", (x, b) -> x.write(b, 0, 0, 0));
        boxTaken("copy b", (x, b) -> x.copy(b, 0, 5, 0, 0));
        boxTaken("copy c", (x, b) -> x.copy(5, 0, b, 0, 0));
        boxTaken("grow", (x, b) -> x.grow(b, 0));
        boxTaken("shape", (x, b) -> x.shape(b, 0, 0, 0));
        boxTaken("line", (x, b) -> x.line(b, 0, 0));
        boxTaken("rule", (x, b) -> x.rule(b, 0, 0, 0));
        boxTaken("lay b", (x, b) -> x.lay(b, 0, 5));
        boxTaken("lay c", (x, b) -> x.lay(5, 0, b));
        boxTaken("set b", (x, b) -> x.set(b, 0, 5));
        boxTaken("set c", (x, b) -> x.set(5, 0, b));
        boxTaken("get", (x, b) -> x.get(b, 0));
        boxTaken("take b", (x, b) -> x.take(b, 0, 5));
        boxTaken("take c", (x, b) -> x.take(5, 0, b));
        boxTaken("level", (x, b) -> x.level(b, 0));
        boxTaken("raise", (x, b) -> x.raise(b, 0, 0));
        boxTaken("ask", (x, b) -> x.ask(b, 0));
        boxTaken("turn", (x, b) -> x.turn(b, 0));
        boxTaken("arm", (x, b) -> x.arm(b, true));
        boxTaken("fail", (x, b) -> x.fail(b));
    }

    private static void boxesHoldNothingAtFirst() {
        PatchAsks x = new PatchAsks();
        for (int b = 0; b < 24; b++) {
            due("1: what(" + b + ")", x.what(b), NONE);
            due("1: width(" + b + ", 0)", x.width(b, 0), NULL);
        }
        due("1: boxes that hold something", x.about(2), 0);
        due("1: no voices", x.about(0), 0);
        due("1: no turns", x.about(3), 0);
        due("1: nothing in the trace", x.about(1), 0);
    }

    private static void severalBoxesMayHoldTheSame() {
        PatchAsks x = new PatchAsks();
        x.curve(0, 5, 1);
        for (int c = 1; c < 24; c++) due("box " + c + " holds it, too", x.share(c - 1, c), 5);
        x.write(23, 5, 0, 9);
        for (int b = 0; b < 24; b++) {
            x.write(23, 5, 0, b + 100);
            x.read(b, 5, 0);
            due("the same by box " + b, x.seen(), b + 100);
        }
        due("all hold something", x.about(2), 24);
    }

    private static void told(int lane, long word, long want) {
        PatchAsks x = new PatchAsks();
        x.curve(0, lane, 3);
        due("12: write of " + word + " in lane " + lane, x.write(0, lane, 1, word), 0);
        x.read(0, lane, 1);
        due("11: " + word + " in lane " + lane, x.seen(), want);
        x.read(0, lane, 0);
        due("11: the one ahead of it", x.seen(), 0);
        x.read(0, lane, 2);
        due("11: the one behind it", x.seen(), 0);
    }

    private static void tellsNone(int lane, long word) {
        PatchAsks x = new PatchAsks();
        x.curve(0, lane, 1);
        due("12: " + Long.toHexString(word) + " tells none in lane " + lane, x.write(0, lane, 0, word), OUTSIDE);
        x.read(0, lane, 0);
        due("12: nothing is written", x.seen(), 0);
    }

    private static void truthsAreToldByTheLowestBit() {
        told(0, 0, 0);
        told(0, 1, 1);
        told(0, 2, 0);
        told(0, 3, 1);
        told(0, -1, 1);
        told(0, -2, 0);
        told(0, 256, 0);
        told(0, Long.MAX_VALUE, 1);
        told(0, Long.MIN_VALUE, 0);
    }

    private static void bytesAreToldBy8Bits() {
        told(1, 127, 127);
        told(1, 128, -128);
        told(1, 255, -1);
        told(1, 256, 0);
        told(1, -128, -128);
        told(1, -129, 127);
        told(1, Long.MAX_VALUE, -1);
        told(1, Long.MIN_VALUE, 0);
    }

    private static void charsAreToldBy16BitsFrom0On() {
        told(2, 65535, 65535);
        told(2, 65536, 0);
        told(2, 32768, 32768);
        told(2, -1, 65535);
        told(2, -65536, 0);
        told(2, Long.MAX_VALUE, 65535);
        told(2, Long.MIN_VALUE, 0);
    }

    private static void shortsAreToldBy16Bits() {
        told(3, 32767, 32767);
        told(3, 32768, -32768);
        told(3, 65535, -1);
        told(3, 65536, 0);
        told(3, -32768, -32768);
        told(3, -32769, 32767);
        told(3, Long.MAX_VALUE, -1);
        told(3, Long.MIN_VALUE, 0);
    }

    private static void intsAreToldBy32Bits() {
        told(4, MOST, MOST);
        told(4, 1L + MOST, LEAST);
        told(4, 0xffffffffL, -1);
        told(4, 1L << 32, 0);
        told(4, LEAST, LEAST);
        told(4, -1L + LEAST, MOST);
        told(4, Long.MAX_VALUE, -1);
        told(4, Long.MIN_VALUE, 0);
    }

    private static void longsAreToldByAll() {
        told(5, Long.MAX_VALUE, Long.MAX_VALUE);
        told(5, Long.MIN_VALUE, Long.MIN_VALUE);
        told(5, 1L << 32, 1L << 32);
        told(5, -1, -1);
        told(5, 0x7ff8000000000000L, 0x7ff8000000000000L);
    }

    private static void floatsAreToldByTheLowest32Bits() {
        told(6, 0x00000001L, 1);
        told(6, 0x7f7fffffL, 0x7f7fffffL);
        told(6, 0x7f800000L, 0x7f800000L);
        tellsNone(6, 0x7f800001L);
        tellsNone(6, 0x7fc00000L);
        tellsNone(6, 0x7fffffffL);
        told(6, 0x80000000L, LEAST);
        told(6, 0x80000001L, LEAST + 1);
        told(6, 0xff7fffffL, 0xffffffffff7fffffL);
        told(6, 0xff800000L, 0xffffffffff800000L);
        tellsNone(6, 0xff800001L);
        tellsNone(6, 0xffffffffL);
        tellsNone(6, -1);
        told(6, 0x7ff8000000000000L, 0);
        told(6, 0x1234567880000000L, LEAST);
        tellsNone(6, 0x123456787f800001L);
    }

    private static void doublesAreToldByAll() {
        told(7, 0x0000000000000001L, 1);
        told(7, 0x7fefffffffffffffL, 0x7fefffffffffffffL);
        told(7, 0x7ff0000000000000L, 0x7ff0000000000000L);
        tellsNone(7, 0x7ff0000000000001L);
        tellsNone(7, 0x7ff8000000000000L);
        tellsNone(7, Long.MAX_VALUE);
        told(7, Long.MIN_VALUE, Long.MIN_VALUE);
        told(7, 0xffefffffffffffffL, 0xffefffffffffffffL);
        told(7, 0xfff0000000000000L, 0xfff0000000000000L);
        tellsNone(7, 0xfff0000000000001L);
        tellsNone(7, -1);
        told(7, 0x7f800001L, 0x7f800001L);
        told(7, 0xffffffffL, 0xffffffffL);
    }

    private static void voicesHaveAll0AndNoTroubleAtFirst() {
        PatchAsks x = new PatchAsks();
        for (int kind = 0; kind < 6; kind++) {
            x.voice(kind, kind);
            x.turn(kind, 5);
            x.arm(kind, true);
            x.voice(kind, kind);
            for (int as = 0; as <= 2; as++) {
                if (x.level(kind, as) == 0) due("level " + as + " of a new " + kind, x.seen(), 0);
            }
            x.ask(kind, 4);
            due("edits of a new " + kind, x.seen(), 0);
            due("trouble of a new " + kind, x.fail(kind), NULL);
        }
    }

    private static void traceIsEmptiedByEachAskAndTurn() {
        PatchAsks x = new PatchAsks();
        x.voice(0, 2);
        x.voice(1, 3);
        x.curve(2, 4, 1);
        int[][] asks = {{0, 4}, {0, 5}, {0, -1}, {0, 6}, {-1, 0}, {24, 0}, {1, 3}, {2, 0}, {3, 0}};
        for (int[] a : asks) {
            x.ask(0, 3);
            due("the trace is filled", x.about(1), 7);
            x.ask(a[0], a[1]);
            CHECK.dueTrace("emptied by ask(" + a[0] + ", " + a[1] + ")", x);
        }
        for (int b : new int[] {-1, 24, 2, 3}) {
            x.ask(0, 3);
            x.turn(b, 1);
            CHECK.dueTrace("emptied by turn(" + b + ", 1)", x);
        }
        x.ask(0, 3);
        x.turn(1, 1);
        CHECK.dueTrace("anew by a turn", x, 40);
        x.ask(0, 3);
        x.turn(0, 1);
        CHECK.dueTrace("anew by a bell's turn", x, 41, 40);
        x.ask(0, 0);
        CHECK.dueTrace("anew by an ask", x, 2, 1);
    }

    private static void traceIsLeftByAllOthers() {
        PatchAsks x = Stand.rack();
        for (int round = 0; round < 2; round++) {
            boolean well = round == 0;
            int b = well ? 20 : -1;
            x.curve(b, 4, 1);
            x.read(b, 4, 0);
            x.write(b, 4, 0, 1);
            x.copy(b, 0, b, 0, 1);
            x.shape(b, 0, 0, 0);
            x.grow(b, 2);
            x.share(b, b);
            x.what(b);
            x.is(b, 4);
            x.width(b, 4);
            x.sheet(b, 1, 1);
            x.line(b, 0, 0);
            x.rule(b, 0, 0, 1);
            x.lay(b, 0, Stand.INTS);
            x.bank(b, 6, 1);
            x.set(b, 0, Stand.CHIME);
            x.get(b, 0);
            x.take(b, 0, b);
            x.level(b, 0);
            x.raise(b, 0, 1);
            x.arm(b, true);
            x.fail(b);
            x.voice(b, 2);
            x.clear(b);
            x.seen();
            x.finding();
            x.findings(1);
            x.digest();
            CHECK.dueTrace("left by all others, " + (well ? "done" : "refused"), x, 30, 21, 20, 2, 1, 10, 10);
        }
    }

    private static void traceHasNoneOfEarlierAsks() {
        PatchAsks x = new PatchAsks();
        x.voice(0, 2);
        for (int k = 0; k < 60; k++) x.ask(0, 3);
        CHECK.dueTrace("behind sixty asks", x, 30, 21, 20, 2, 1, 10, 10);
    }

    private static void findingsAreAnsweredAsMinus10LessThem() {
        PatchAsks x = new PatchAsks();
        x.curve(0, 4, 1);
        x.bank(1, 3, 1);
        x.voice(2, 0);
        x.arm(2, true);
        due("NULL", x.get(9, 0), NULL);
        due("NULL, told", x.finding(), 1);
        due("INDEX", x.read(0, 4, 1), INDEX);
        due("INDEX, told", x.finding(), 2);
        due("CAST", x.read(0, 3, 0), CAST);
        due("CAST, told", x.finding(), 3);
        due("STORE", x.set(1, 0, 2), STORE);
        due("STORE, told", x.finding(), 4);
        due("SIZE", x.grow(0, -1), SIZE);
        due("SIZE, told", x.finding(), 5);
        due("ZERO", x.shape(0, 0, 8, 0), -16);
        due("ZERO, told", x.finding(), 6);
        due("TROUBLE", x.fail(2), TROUBLE);
        due("TROUBLE, told", x.finding(), 7);
    }
}
