import java.lang.reflect.Field;
import java.lang.reflect.Method;
import java.lang.reflect.Modifier;
import java.nio.file.Files;
import java.nio.file.Path;
import java.util.ArrayList;
import java.util.Arrays;
import java.util.List;
import java.util.regex.Matcher;
import java.util.regex.Pattern;

/** The public face of the document, and the rules of LANGUAGE.md that can be seen in the class or in its source. */
public final class FaceTest {
    private static final String SOURCE = "src/main/java/PatchAsks.java";
    private static final String[] FACE = {
        "int curve(int, int, int)", "int sheet(int, int, int)", "int bank(int, int, int)", "int voice(int, int)",
        "int share(int, int)", "int clear(int)", "int what(int)", "int is(int, int)", "int width(int, int)",
        "int read(int, int, int)", "int write(int, int, int, long)", "int copy(int, int, int, int, int)",
        "int grow(int, int)", "int shape(int, int, int, long)", "long seen()", "int line(int, int, int)",
        "int rule(int, int, int, int)", "int lay(int, int, int)", "int set(int, int, int)", "int get(int, int)",
        "int take(int, int, int)", "int level(int, int)", "int raise(int, int, int)", "int ask(int, int)",
        "int turn(int, int)", "int arm(int, boolean)", "int fail(int)", "int trace(int)", "int finding()",
        "int findings(int)", "int about(int)", "long digest()"};
    // Words that the rules rule out, and the library's own that they do not list.
    private static final String[] BARRED = {"throw", "throws", "try", "catch", "finally", "synchronized", "assert",
        "float", "double", "protected", "Object", "Float", "Double", "Character", "Boolean", "System\\.(?!arraycopy)",
        "Exact", "hashCode", "toString", "getClass", "new\\s+\\w+\\s*\\([^)]*\\)\\s*\\{", "->", "::", "\"", "%s",
        "package", "transient", "volatile", "native", "strictfp"};

    private static final Check CHECK = new Check("FaceTest");

    public static void main(String[] args) throws Exception {
        constants();
        members();
        insides();
        source(Files.readString(Path.of(SOURCE)));
        CHECK.end();
    }

    private static void constants() {
        CHECK.due("NONE", PatchAsks.NONE, -1);
        CHECK.due("UNKNOWN", PatchAsks.UNKNOWN, -101);
        CHECK.due("OUTSIDE", PatchAsks.OUTSIDE, -102);
        CHECK.due("FULL", PatchAsks.FULL, -104);
    }

    private static void members() {
        Class<?> face = PatchAsks.class;
        CHECK.holds("public and final", (face.getModifiers() & (Modifier.PUBLIC | Modifier.FINAL)) == 17);
        CHECK.due("constructors", face.getDeclaredConstructors().length, 1);
        CHECK.due("public constructors", face.getConstructors().length, 1);
        List<String> got = new ArrayList<>();
        List<String> names = new ArrayList<>();
        for (Method m : face.getDeclaredMethods()) {
            if (!Modifier.isPublic(m.getModifiers())) continue;
            CHECK.holds(m.getName() + " is not static", !Modifier.isStatic(m.getModifiers()));
            StringBuilder types = new StringBuilder();
            for (Class<?> type : m.getParameterTypes()) types.append(types.length() == 0 ? "" : ", ").append(type);
            got.add(m.getReturnType() + " " + m.getName() + "(" + types + ")");
            names.add(m.getName());
        }
        for (String want : FACE) CHECK.holds("has " + want, got.remove(want));
        CHECK.holds("no more than the face: " + got, got.isEmpty());
        for (Method m : face.getDeclaredMethods()) {
            if (Modifier.isPublic(m.getModifiers())) continue;
            CHECK.holds(m.getName() + " is private", Modifier.isPrivate(m.getModifiers()));
            CHECK.holds(m.getName() + " bears no public name", !names.contains(m.getName()));
            CHECK.holds(m.getName() + " takes seven at most", m.getParameterCount() <= 7);
        }
    }

    private static void insides() {
        List<String> open = Arrays.asList("NONE", "UNKNOWN", "OUTSIDE", "FULL");
        for (Field f : PatchAsks.class.getDeclaredFields()) {
            boolean isOpen = open.contains(f.getName());
            CHECK.holds(f + " is open as told", isOpen ? Modifier.isPublic(f.getModifiers()) : Modifier.isPrivate(f.getModifiers()));
        }
        Class<?>[] inside = PatchAsks.class.getDeclaredClasses();
        CHECK.holds("some twelve classes", inside.length <= 11);
        for (Class<?> c : inside) {
            CHECK.holds(c + " is static", Modifier.isStatic(c.getModifiers()));
            CHECK.holds(c + " is not public", !Modifier.isPublic(c.getModifiers()));
            CHECK.due(c + " has none inside", c.getDeclaredClasses().length, 0);
            checkFields(c);
        }
        checkFields(PatchAsks.class);
    }

    private static void checkFields(Class<?> c) {
        int own = 0;
        for (Field f : c.getDeclaredFields()) {
            boolean isStatic = Modifier.isStatic(f.getModifiers());
            if (isStatic) CHECK.holds(f + " is final", Modifier.isFinal(f.getModifiers()));
            else own++;
        }
        CHECK.holds(c + " has some twenty fields", own <= 20);
    }

    private static void source(String text) {
        String code = text.replaceAll("(?s)/\\*.*?\\*/", "").replaceAll("//[^\n]*", "");
        for (String barred : BARRED) {
            boolean isWord = Character.isLetter(barred.charAt(0)) && barred.indexOf('\\') < 0;
            Matcher m = Pattern.compile(isWord ? "\\b" + barred + "\\b" : barred).matcher(code);
            CHECK.holds("the source is free of " + barred, !m.find());
        }
        Matcher imports = Pattern.compile("import ([^;]*);").matcher(code);
        while (imports.find()) {
            CHECK.holds("import of " + imports.group(1),
                Arrays.asList("java.util.Arrays", "java.util.ArrayList", "java.util.List").contains(imports.group(1)));
        }
    }
}
