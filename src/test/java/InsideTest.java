import java.lang.reflect.Array;
import java.lang.reflect.Field;

/**
 * Two boundary cases that no run of 512 calls comes to, since no call writes more than 7 numbers behind THE TRACE, and
 * a turn is one edit alone: they are set up inside the object.
 */
public final class InsideTest {
    private static final Check CHECK = new Check("InsideTest");

    public static void main(String[] args) throws ReflectiveOperationException {
        for (int held = 93; held <= 100; held++) traceHas100AtMost(held);
        editsWrap();
        CHECK.end();
    }

    private static Field field(Object of, String name) throws ReflectiveOperationException {
        Field field = of.getClass().getDeclaredField(name);
        field.setAccessible(true);
        return field;
    }

    // A chime's HEARD writes seven numbers, of which those that no longer fit are not written.
    private static void traceHas100AtMost(int held) throws ReflectiveOperationException {
        int[] bodies = {30, 21, 20, 2, 1, 10, 10};
        PatchAsks x = new PatchAsks();
        x.voice(0, 2);
        Object trace = field(x, "bodies").get(x);
        Object voice = Array.get(field(x, "boxes").get(x), 0);
        field(trace, "count").setInt(trace, held);
        var heard = voice.getClass().getDeclaredMethod("heard", trace.getClass());
        heard.setAccessible(true);
        CHECK.due("the answer, behind " + held, (int) heard.invoke(voice, trace), 6);
        CHECK.due("32: numbers, behind " + held, x.about(1), Math.min(100, held + 7));
        for (int k = held; k < held + 7; k++) {
            CHECK.due("29: trace(" + k + "), behind " + held, x.trace(k), k < 100 ? bodies[k - held] : PatchAsks.NONE);
        }
    }

    private static void editsWrap() throws ReflectiveOperationException {
        for (int kind = 0; kind < 6; kind++) {
            PatchAsks x = new PatchAsks();
            x.voice(0, kind);
            Object voice = Array.get(field(x, "boxes").get(x), 0);
            field(voice, "edits").setInt(voice, Integer.MAX_VALUE);
            CHECK.due("26: turn", x.turn(0, 1), 0);
            CHECK.due("25: ask", x.ask(0, 4), 0);
            CHECK.due("25: edits", x.seen(), Integer.MIN_VALUE);
        }
    }
}
