import java.io.IOException;
import java.lang.reflect.Constructor;
import java.lang.reflect.Field;
import java.lang.reflect.Method;
import java.lang.reflect.Modifier;
import java.nio.file.Files;
import java.nio.file.Path;
import java.util.ArrayList;
import java.util.Arrays;
import java.util.List;
import java.util.regex.Matcher;
import java.util.regex.Pattern;

/**
 * The document's face, that no other member can be seen from outside, and those rules of LANGUAGE.md that show in the
 * class or in its source.
 */
public final class FaceTest {
    private static final String SOURCE = "src/main/java/PatchAsks.java";
    private static final String[] METHODS = {
        "int curve(int, int, int)", "int sheet(int, int, int)", "int bank(int, int, int)", "int voice(int, int)",
        "int share(int, int)", "int clear(int)", "int what(int)", "int is(int, int)", "int width(int, int)",
        "int read(int, int, int)", "int write(int, int, int, long)", "int copy(int, int, int, int, int)",
        "int grow(int, int)", "int shape(int, int, int, long)", "long seen()", "int line(int, int, int)",
        "int rule(int, int, int, int)", "int lay(int, int, int)", "int set(int, int, int)", "int get(int, int)",
        "int take(int, int, int)", "int level(int, int)", "int raise(int, int, int)", "int ask(int, int)",
        "int turn(int, int)", "int arm(int, boolean)", "int fail(int)", "int trace(int)", "int finding()",
        "int findings(int)", "int about(int)", "long digest()"};
    private static final List<String> CONSTANTS = Arrays.asList("NONE", "UNKNOWN", "OUTSIDE", "FULL");
    // Words that the rules rule out, and types and names of the library that they do not list or that have no use here.
    private static final String[] BARRED = {"throw", "throws", "try", "catch", "finally", "synchronized", "assert",
        "float", "double", "protected", "Object", "Float", "Double", "Character", "Boolean", "equals", "hashCode",
        "toString", "getClass", "new\\s+\\w+\\s*\\([^)]*\\)\\s*\\{", "->", "::", "\"", "package", "transient", "volatile",
        "native", "strictfp", "static\\s*\\{"};
    private static final List<String> LIBRARY = Arrays.asList("Arrays.copyOf", "System.arraycopy", "Math.abs", "Math.max",
        "Math.min", "Integer.MIN_VALUE", "Integer.MAX_VALUE", "Long.MIN_VALUE", "Long.MAX_VALUE");
    private static final int LONGEST_METHOD = 60, MOST_CLASSES = 12, MOST_FIELDS = 20, MOST_PARAMETERS = 7;

    private static final Check CHECK = new Check("FaceTest");
    private static final List<String> PUBLIC_NAMES = new ArrayList<>();

    public static void main(String[] args) throws IOException {
        theClass();
        constants();
        theConstructor();
        publicMethods();
        nothingElseIsSeen();
        classesInside();
        source(Files.readString(Path.of(SOURCE)));
        CHECK.end();
    }

    private static void theClass() {
        CHECK.due("public and final alone", PatchAsks.class.getModifiers(), Modifier.PUBLIC | Modifier.FINAL);
        CHECK.holds("extends nothing", PatchAsks.class.getSuperclass() == Object.class);
        CHECK.due("implements nothing", PatchAsks.class.getInterfaces().length, 0);
        CHECK.due("no package", PatchAsks.class.getPackageName().length(), 0);
    }

    private static void constants() {
        CHECK.due("NONE", PatchAsks.NONE, -1);
        CHECK.due("UNKNOWN", PatchAsks.UNKNOWN, -101);
        CHECK.due("OUTSIDE", PatchAsks.OUTSIDE, -102);
        CHECK.due("FULL", PatchAsks.FULL, -104);
        int open = Modifier.PUBLIC | Modifier.STATIC | Modifier.FINAL;
        for (Field f : PatchAsks.class.getDeclaredFields()) {
            if (!CONSTANTS.contains(f.getName())) continue;
            CHECK.due(f.getName() + " is public, static and final", f.getModifiers(), open);
            CHECK.holds(f.getName() + " is an int", f.getType() == int.class);
        }
        CHECK.due("as many public fields", PatchAsks.class.getFields().length, CONSTANTS.size());
    }

    private static void theConstructor() {
        Constructor<?>[] all = PatchAsks.class.getDeclaredConstructors();
        CHECK.due("one constructor", all.length, 1);
        CHECK.due("public alone", all[0].getModifiers(), Modifier.PUBLIC);
        CHECK.due("takes nothing", all[0].getParameterCount(), 0);
    }

    private static void publicMethods() {
        List<String> got = new ArrayList<>();
        for (Method m : PatchAsks.class.getMethods()) {
            if (m.getDeclaringClass() == Object.class) continue;
            CHECK.due(m.getName() + " is public alone", m.getModifiers(), Modifier.PUBLIC);
            CHECK.due(m.getName() + " names no exception", m.getExceptionTypes().length, 0);
            StringBuilder types = new StringBuilder();
            for (Class<?> type : m.getParameterTypes()) types.append(types.length() == 0 ? "" : ", ").append(type);
            got.add(m.getReturnType() + " " + m.getName() + "(" + types + ")");
            PUBLIC_NAMES.add(m.getName());
        }
        for (String want : METHODS) CHECK.holds("has " + want, got.remove(want));
        CHECK.holds("no more than the face: " + got, got.isEmpty());
    }

    private static void nothingElseIsSeen() {
        for (Method m : PatchAsks.class.getDeclaredMethods()) {
            boolean isOpen = Modifier.isPublic(m.getModifiers());
            CHECK.holds(m.getName() + " is public or private", isOpen || Modifier.isPrivate(m.getModifiers()));
            CHECK.holds(m.getName() + " is made by no compiler", !m.isSynthetic());
        }
        for (Field f : PatchAsks.class.getDeclaredFields()) {
            boolean isOpen = CONSTANTS.contains(f.getName());
            CHECK.holds(f.getName() + " is open as told", isOpen || Modifier.isPrivate(f.getModifiers()));
            CHECK.holds(f.getName() + " is made by no compiler", !f.isSynthetic());
        }
        ownMethods(PatchAsks.class);
        ownFields(PatchAsks.class);
    }

    private static void classesInside() {
        Class<?>[] inside = PatchAsks.class.getDeclaredClasses();
        CHECK.holds("some twelve classes", inside.length < MOST_CLASSES);
        for (Class<?> c : inside) {
            int modifiers = c.getModifiers();
            CHECK.holds(c + " is static", Modifier.isStatic(modifiers));
            CHECK.holds(c + " is not open", !Modifier.isPublic(modifiers) && !Modifier.isProtected(modifiers));
            CHECK.due(c + " has none inside", c.getDeclaredClasses().length, 0);
            ownMethods(c);
            ownFields(c);
        }
    }

    private static void ownMethods(Class<?> c) {
        for (Method m : c.getDeclaredMethods()) {
            if (Modifier.isPublic(m.getModifiers())) continue;
            CHECK.holds(c + "." + m.getName() + " bears no public name", !PUBLIC_NAMES.contains(m.getName()));
            CHECK.holds(c + "." + m.getName() + " takes seven at most", m.getParameterCount() <= MOST_PARAMETERS);
        }
    }

    private static void ownFields(Class<?> c) {
        int own = 0;
        for (Field f : c.getDeclaredFields()) {
            if (!Modifier.isStatic(f.getModifiers())) own++;
            else {
                CHECK.holds(f + " is final", Modifier.isFinal(f.getModifiers()));
                CHECK.holds(f + " is a constant number", f.getType() == int.class || f.getType() == long.class);
            }
        }
        CHECK.holds(c + " has some twenty fields", own <= MOST_FIELDS);
    }

    private static void source(String text) {
        String code = text.replaceAll("(?s)/\\*.*?\\*/", "").replaceAll("//[^\n]*", "");
        for (String barred : BARRED) {
            boolean isWord = Character.isLetter(barred.charAt(0)) && barred.indexOf('\\') < 0;
            Matcher m = Pattern.compile(isWord ? "\\b" + barred + "\\b" : barred).matcher(code);
            CHECK.holds("the source is free of " + barred, !m.find());
        }
        Matcher imports = Pattern.compile("import ([^;]*);").matcher(code);
        while (imports.find()) CHECK.holds("import of " + imports.group(1), imports.group(1).equals("java.util.Arrays"));
        Matcher names = Pattern.compile("(?<![.\\w])[A-Z]\\w*\\.\\w+").matcher(code);
        while (names.find()) CHECK.holds("the library's " + names.group(), LIBRARY.contains(names.group()));
        lengths(text.split("\n"));
    }

    // A method ends with a brace as far in as it begins.
    private static void lengths(String[] lines) {
        for (int from = 0; from < lines.length; from++) {
            Matcher head = Pattern.compile("( {4}| {8})\\w.*\\) \\{").matcher(lines[from]);
            if (!head.matches()) continue;
            int to = from;
            while (to < lines.length && !lines[to].equals(head.group(1) + "}")) to++;
            CHECK.holds("short enough: " + lines[from].trim(), to - from < LONGEST_METHOD);
        }
    }
}
