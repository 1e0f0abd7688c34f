import java.io.IOException;
import java.lang.reflect.Constructor;
import java.lang.reflect.Field;
import java.lang.reflect.Method;
import java.lang.reflect.Modifier;
import java.nio.file.Files;
import java.nio.file.Path;
import java.util.ArrayList;
import java.util.Arrays;
import java.util.List;
import java.util.TreeSet;
import java.util.regex.Matcher;
import java.util.regex.Pattern;

/** The public face, and the rules of LANGUAGE.md that can be seen in the source or the classes. */
public final class FormTests {
    private static final Bench BENCH = new Bench();

    private static final String[] FACE = {
        "boolean poke(int, int)", "boolean reset()", "boolean type(long, int)", "int busRead(int)",
        "int busWrite(int, int)", "int check()", "int compile() throws IllegalArgumentException", "int drop()",
        "int erase()", "int fault(int)",
        "int fetch(int) throws IndexOutOfBoundsException, IllegalStateException", "int field(int, int)",
        "int flush()", "int found(int)", "int join(int, int)", "int put(int, int)", "int run(int)",
        "int state(int)", "int step(int, int, int)", "int trace(int, int)"};

    public static void main(String[] args) throws IOException {
        face();
        classesInside();
        source(Files.readString(Path.of("src/main/java/ChipMap.java")));
        BENCH.end();
    }

    private static void same(String what, Object got, Object want) {
        BENCH.due(what + ": " + got + ", due is " + want, got.equals(want), true);
    }

    private static void face() {
        BENCH.part("rule 1");
        same("class", Modifier.toString(ChipMap.class.getModifiers()), "public final");
        List<String> face = new ArrayList<>();
        for (Method m : ChipMap.class.getDeclaredMethods()) {
            if (Modifier.isPrivate(m.getModifiers())) {
                BENCH.due("private " + m.getName(), isFaceName(m.getName()), false);
            } else {
                same(m.getName(), Modifier.toString(m.getModifiers()), "public");
                face.add(signature(m));
            }
        }
        same("face", new TreeSet<>(face), new TreeSet<>(Arrays.asList(FACE)));
        for (Field f : ChipMap.class.getDeclaredFields()) {
            same(f.getName(), Modifier.isPrivate(f.getModifiers()), !f.getName().equals("NONE"));
        }
        Constructor<?>[] constructors = ChipMap.class.getDeclaredConstructors();
        BENCH.due("constructors", constructors.length, 1);
        same("constructor", constructors[0].toString(), "public ChipMap()");
    }

    private static String signature(Method m) {
        List<String> parameters = new ArrayList<>();
        for (Class<?> c : m.getParameterTypes()) {
            parameters.add(c.getSimpleName());
        }
        List<String> exceptions = new ArrayList<>();
        for (Class<?> c : m.getExceptionTypes()) {
            exceptions.add(c.getSimpleName());
        }
        String told = exceptions.isEmpty() ? "" : " throws " + String.join(", ", exceptions);
        return m.getReturnType().getSimpleName() + " " + m.getName() + "(" + String.join(", ", parameters) + ")" + told;
    }

    private static boolean isFaceName(String name) {
        for (String s : FACE) {
            if (s.contains(" " + name + "(")) {
                return true;
            }
        }
        return false;
    }

    private static void classesInside() {
        BENCH.part("rules 1, 5 and 11");
        Class<?>[] inside = ChipMap.class.getDeclaredClasses();
        BENCH.due("at most twelve classes", inside.length + 1 <= 12, true);
        List<Class<?>> all = new ArrayList<>(Arrays.asList(inside));
        all.add(ChipMap.class);
        for (Class<?> c : all) {
            if (c != ChipMap.class) {
                BENCH.due(c.getName() + " is static", Modifier.isStatic(c.getModifiers()), true);
                BENCH.due(c.getName() + " is not public", Modifier.isPublic(c.getModifiers()), false);
            }
            int fields = 0;
            for (Field f : c.getDeclaredFields()) {
                if (Modifier.isStatic(f.getModifiers())) {
                    BENCH.due(f + " is final", Modifier.isFinal(f.getModifiers()), true);
                } else {
                    fields++;
                }
            }
            BENCH.due(c.getName() + " has at most twenty fields", fields <= 20, true);
            for (Method m : c.getDeclaredMethods()) {
                BENCH.due(m + " has at most seven parameters", m.getParameterCount() <= 7, true);
                if (Modifier.isPrivate(m.getModifiers())) {
                    BENCH.due(m + " has a name of its own", isFaceName(m.getName()), false);
                }
            }
        }
    }

    private static void source(String text) {
        BENCH.part("rules 2 to 10 and 13");
        String code = text.replaceAll("(?s)/\\*.*?\\*/", "").replaceAll("//[^\n]*", "");
        String[] banned = {"(?m)^(?!\\s*(case|default)\\b).*->", "::", "\\bsynchronized\\b", "\\bassert\\b",
            "\\bfinally\\b", "\\btry\\s*\\(", "getMessage", "Exact\\(", "\\bpackage\\b", "\\bstatic\\s*\\{",
            "\\bSystem\\.(?!arraycopy\\b)", "\\bArrays\\.(?!(fill|copyOf|copyOfRange)\\b)", "(?<!import )\\bjava\\.",
            "\\bwhile\\s*\\(true\\)", "for\\s*\\(\\s*;\\s*;", "\" \\+", "\\+ \"", "[^\\x00-\\xff]"};
        for (String s : banned) {
            Matcher m = Pattern.compile(s).matcher(code);
            BENCH.due("no " + s, m.find(), false);
        }
        Matcher imports = Pattern.compile("\\bimport ([^;]+);").matcher(code);
        while (imports.find()) {
            BENCH.due("import " + imports.group(1), imports.group(1)
                .matches("java\\.util\\.(Arrays|ArrayList|List|Iterator|NoSuchElementException)"), true);
        }
        String exceptions = "(IllegalState|IllegalArgument|IndexOutOfBounds|Arithmetic|UnsupportedOperation|NoSuchElement"
            + "|Runtime)Exception";
        Matcher thrown = Pattern.compile("\\bthrow\\b(?! new " + exceptions + "\\((\"[^\"]*\")?\\);)").matcher(code);
        BENCH.due("throws of another form", thrown.find(), false);
        methodLengths(code);
    }

    private static void methodLengths(String code) {
        Matcher method = Pattern.compile("(?m)^( {4}| {8})(?! )(?!.*\\bclass\\b)[^\n;=]*\\) (throws [^{\n]*)?\\{\n(?s:.*?)\n\\1\\}").matcher(code);
        int methods = 0;
        while (method.find()) {
            methods++;
            String body = method.group();
            BENCH.due("at most sixty lines: " + body.split("\n")[0].trim(), body.split("\n").length <= 60, true);
        }
        BENCH.due("methods were found", methods >= FACE.length, true);
    }
}
