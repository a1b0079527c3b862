import java.io.IOException;
import java.lang.reflect.Method;
import java.nio.file.DirectoryStream;
import java.nio.file.Files;
import java.nio.file.Path;
import java.util.Map;
import java.util.regex.Matcher;
import java.util.regex.Pattern;

/** README.md: each call in its examples answers as told there; it names each call, each test and how they are run. */
public final class ReadmeTest {
    private static final String MAKING = "PatchAsks rack = new PatchAsks();";
    private static final Pattern EXAMPLES = Pattern.compile("(?s)```java\n(.*?)```");
    private static final Pattern EXAMPLE = Pattern.compile("rack\\.(\\w+)\\(([^)]*)\\); +// (-?\\d+)(:.*)?");
    private static final Check CHECK = new Check("ReadmeTest");
    private static final Map<String, Method> CALLS = Calls.all();

    public static void main(String[] args) throws IOException {
        String text = Files.readString(Path.of("README.md"));
        examples(text);
        namesEachCall(text);
        namesEachTest(text);
        CHECK.holds("it tells how the tests are run", text.contains("```sh\n.ci/run\n```"));
        CHECK.holds("that command can be run", Files.isExecutable(Path.of(".ci/run")));
        CHECK.end();
    }

    private static void examples(String text) {
        Matcher blocks = EXAMPLES.matcher(text);
        int found = 0;
        while (blocks.find()) {
            oneExample(blocks.group(1).split("\n"));
            found++;
        }
        CHECK.due("examples: use, findings, seen, trace", found, 4);
    }

    private static void oneExample(String[] lines) {
        CHECK.holds("an example begins with a new rack: " + lines[0], lines[0].equals(MAKING));
        PatchAsks rack = new PatchAsks();
        for (int k = 1; k < lines.length; k++) {
            Matcher line = EXAMPLE.matcher(lines[k]);
            boolean isCall = line.matches() && CALLS.containsKey(line.group(1));
            CHECK.holds("a call and its answer: " + lines[k], isCall);
            if (!isCall) continue;
            Method call = CALLS.get(line.group(1));
            CHECK.due(lines[k], Calls.answer(rack, call, arguments(call, line.group(2))), Long.parseLong(line.group(3)));
        }
    }

    private static Object[] arguments(Method call, String written) {
        Class<?>[] types = call.getParameterTypes();
        Object[] args = new Object[types.length];
        String[] each = written.split(", ");
        for (int k = 0; k < types.length; k++) {
            String one = each[k].replace("L", "");
            if (types[k] == boolean.class) args[k] = Boolean.valueOf(one);
            else if (types[k] == long.class) args[k] = Long.decode(one);
            else args[k] = Integer.decode(one);
        }
        return args;
    }

    private static void namesEachCall(String text) {
        for (String name : CALLS.keySet()) {
            CHECK.holds("it names " + name, Pattern.compile("(?m)^\\|.*`" + name + "`.*\\|$").matcher(text).find());
        }
    }

    private static void namesEachTest(String text) throws IOException {
        try (DirectoryStream<Path> files = Files.newDirectoryStream(Path.of("src/test/java"), "*.java")) {
            for (Path file : files) {
                String name = file.getFileName().toString().replace(".java", "");
                CHECK.holds("it names " + name, text.contains("`" + name + "`"));
            }
        }
    }
}
