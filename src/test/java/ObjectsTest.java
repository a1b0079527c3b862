import java.lang.reflect.Method;
import java.util.ArrayList;
import java.util.List;
import java.util.Map;
import java.util.Random;
import java.util.Set;
import java.util.TreeSet;

/**
 * What holds for every call on every object: objects share nothing, the same calls give the same answers, no call throws
 * for any arguments in any state, and none answers what its promise does not name.
 */
public final class ObjectsTest {
    /** Of each call the most that it answers if it is done (none: it never is), and the refusals, FINDINGS and NONE. */
    private static final String[] ANSWERS = {
        "curve 16 -101 -102 -15", "sheet 8 -101 -102 -15", "bank 8 -101 -102 -15", "voice 39 -101 -102 -104",
        "share 25 -101 -1", "clear 25 -101 -1", "what 25 -101 -1", "is 1 -101 -102", "width 16 -101 -102 -11 -13",
        "read 0 -101 -102 -11 -13 -12", "write 0 -101 -102 -11 -13 -12", "copy 0 -101 -11 -13 -12",
        "grow 16 -101 -102 -11 -13 -15", "shape 0 -101 -102 -11 -13 -12 -16", "line 0 -101 -13 -11 -12",
        "rule 0 -101 -13 -11 -12", "lay 0 -101 -13 -11 -12", "set 0 -101 -13 -11 -12 -14", "get 39 -101 -13 -11 -12 -1",
        "take 39 -101 -13 -11 -12 -1", "level 0 -101 -102 -13 -11", "raise 0 -101 -102 -13 -11",
        "ask 0 -101 -102 -13 -11", "turn 0 -101 -13 -11", "arm 0 -101 -13 -11", "fail none -101 -13 -11 -17",
        "trace 41 -1", "finding 7", "findings 512 -102", "about 512 -102"};
    private static final int CALLS = 512;
    private static final Check CHECK = new Check("ObjectsTest");
    private static final List<Method> FACE = new ArrayList<>(Calls.all().values());

    public static void main(String[] args) {
        answersAreThoseThatAreNamed();
        objectsShareNothing();
        sameCallsGiveTheSameAnswers();
        noCallThrowsBehindThe512th();
        noEdgesThrowOnTheStand();
        CHECK.end();
    }

    private static Method anyCall(Random random) {
        return FACE.get(random.nextInt(FACE.size()));
    }

    private static void answersAreThoseThatAreNamed() {
        Map<String, Method> calls = Calls.all();
        for (String row : ANSWERS) {
            String[] parts = row.split(" ");
            Set<Long> named = new TreeSet<>();
            for (int k = 2; k < parts.length; k++) named.add(Long.parseLong(parts[k]));
            long most = parts[1].equals("none") ? -1 : Long.parseLong(parts[1]);
            onlyThese(calls.get(parts[0]), most, named);
        }
    }

    // Each try is the last call of a run, so that the call meets many states.
    private static void onlyThese(Method call, long most, Set<Long> named) {
        Random random = new Random(call.getName().hashCode());
        Set<Long> met = new TreeSet<>();
        boolean isDone = false;
        for (int run = 0; run < 60; run++) {
            PatchAsks x = run % 3 == 0 ? Stand.full() : run % 3 == 1 ? Stand.rack() : new PatchAsks();
            for (int k = 0; k < 90; k++) {
                Method other = anyCall(random);
                Calls.answer(x, other, Calls.anyArguments(random, other));
                Object[] args = Calls.anyArguments(random, call);
                long answer = Calls.answer(x, call, args);
                boolean isNamed = named.contains(answer);
                CHECK.holds(Calls.told(call, args) + " answered " + answer, isNamed || answer >= 0 && answer <= most);
                if (isNamed) met.add(answer);
                else isDone = true;
            }
        }
        CHECK.holds(call.getName() + " met " + met + " of " + named, met.equals(named));
        CHECK.holds(call.getName() + " is done at times", isDone == most >= 0);
    }

    private static String allTold(PatchAsks x) {
        StringBuilder told = new StringBuilder().append(x.digest()).append(' ').append(x.seen()).append(' ').append(x.finding());
        for (int f = 1; f <= 7; f++) told.append(' ').append(x.findings(f));
        for (int what = 0; what <= 3; what++) told.append(' ').append(x.about(what));
        for (int k = 0; k < 8; k++) told.append(' ').append(x.trace(k));
        return told.toString();
    }

    private static void objectsShareNothing() {
        Random random = new Random(1);
        for (int run = 0; run < 50; run++) {
            PatchAsks untouched = new PatchAsks();
            PatchAsks stand = Stand.rack();
            String ahead = allTold(stand);
            PatchAsks busy = Stand.rack();
            for (int k = 0; k < 400; k++) {
                Method call = anyCall(random);
                Calls.answer(busy, call, Calls.anyArguments(random, call));
            }
            CHECK.holds("1: another new object is as new", allTold(untouched).equals(allTold(new PatchAsks())));
            CHECK.holds("another stand is as it was", allTold(stand).equals(ahead));
        }
    }

    private static void sameCallsGiveTheSameAnswers() {
        Random random = new Random(2);
        for (int run = 0; run < 100; run++) {
            PatchAsks one = new PatchAsks();
            PatchAsks two = new PatchAsks();
            for (int k = 0; k < CALLS; k++) {
                Method call = anyCall(random);
                Object[] args = Calls.anyArguments(random, call);
                CHECK.due(Calls.told(call, args), Calls.answer(two, call, args), Calls.answer(one, call, args));
            }
        }
    }

    // What these calls answer is free, but they answer.
    private static void noCallThrowsBehindThe512th() {
        Random random = new Random(3);
        PatchAsks x = Stand.rack();
        for (int k = 0; k < 300_000; k++) {
            Method call = anyCall(random);
            Calls.answer(x, call, Calls.anyArguments(random, call));
        }
    }

    private static void noEdgesThrowOnTheStand() {
        Object[] edges = {Integer.MIN_VALUE, -1, 0, 4, 8, 16, 23, Integer.MAX_VALUE};
        for (Method call : FACE) {
            Class<?>[] types = call.getParameterTypes();
            int all = 1;
            for (int k = 0; k < types.length; k++) all *= edges.length;
            PatchAsks x = Stand.rack();
            for (int choice = 0; choice < all; choice++) {
                Object[] args = new Object[types.length];
                int rest = choice;
                for (int k = 0; k < types.length; k++) {
                    int edge = (Integer) edges[rest % edges.length];
                    if (types[k] == boolean.class) args[k] = edge < 0;
                    else if (types[k] == long.class) args[k] = (long) edge << 32 | 1;
                    else args[k] = edge;
                    rest /= edges.length;
                }
                Calls.answer(x, call, args);
            }
        }
    }
}
