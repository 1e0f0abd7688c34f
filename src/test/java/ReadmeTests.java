import java.io.File;
import java.io.IOException;
import java.lang.reflect.InvocationTargetException;
import java.lang.reflect.Method;
import java.lang.reflect.Modifier;
import java.nio.file.Files;
import java.nio.file.Path;
import java.util.Set;
import java.util.TreeSet;
import java.util.regex.Matcher;
import java.util.regex.Pattern;

/** Does the calls that stand in README.md, row by row, and compares the answers that stand behind them. */
public final class ReadmeTests {
    private static final Bench BENCH = new Bench();
    private static final Pattern BLOCK = Pattern.compile("(?s)```java\n(.*?)```");
    private static final Pattern TAPE = Pattern.compile("String tape = \"(.*)\";");
    private static final Pattern CALL = Pattern.compile("chip\\.(\\w+)\\(([^)]*)\\); +// (-?\\w+).*");
    /** The rows that are no calls, and do not need to be done. */
    private static final Set<String> AROUND = Set.of("for (char c : tape.toCharArray()) {", "chip.type(c, 1);", "}");

    private static final Set<String> NAMES = new TreeSet<>();
    private static ChipMap chip;

    public static void main(String[] args) throws IOException, IllegalAccessException {
        String text = Files.readString(Path.of("README.md"));
        Matcher block = BLOCK.matcher(text);
        while (block.find()) {
            for (String row : block.group(1).split("\n")) {
                doRow(row.trim());
            }
        }
        BENCH.part("README.md");
        for (Method m : ChipMap.class.getDeclaredMethods()) {
            if (Modifier.isPublic(m.getModifiers())) {
                BENCH.due("has a call of " + m.getName(), NAMES.contains(m.getName()), true);
            }
        }
        BENCH.due("says how the tests are run", text.contains("\n    .ci/run\n"), true);
        for (String file : new File("src/test/java").list()) {
            if (file.endsWith("Tests.java")) {
                BENCH.due("names " + file, text.contains("`" + file.replace(".java", "") + "`"), true);
            }
        }
        BENCH.end();
    }

    private static void doRow(String row) throws IllegalAccessException {
        BENCH.part("README.md: " + row);
        Matcher tape = TAPE.matcher(row);
        Matcher call = CALL.matcher(row);
        if (row.equals("ChipMap chip = new ChipMap();")) {
            chip = new ChipMap();
        } else if (tape.matches()) {
            for (char c : tape.group(1).toCharArray()) {
                BENCH.due("type", chip.type(c, 1), true);
            }
        } else if (call.matches()) {
            NAMES.add(call.group(1));
            String got = answer(call.group(1), call.group(2));
            BENCH.due("is " + got + ", not " + call.group(3), got.equals(call.group(3)), true);
        } else {
            BENCH.due("is a row that can be done", row.isEmpty() || AROUND.contains(row), true);
        }
    }

    private static String answer(String name, String arguments) throws IllegalAccessException {
        String[] texts = arguments.isEmpty() ? new String[0] : arguments.split(", ");
        for (Method m : ChipMap.class.getMethods()) {
            if (m.getName().equals(name) && m.getParameterCount() == texts.length) {
                Object[] values = new Object[texts.length];
                for (int i = 0; i < texts.length; i++) {
                    long value = Long.decode(texts[i].replace("L", ""));
                    values[i] = m.getParameterTypes()[i] == long.class ? (Object) value : (Object) (int) value;
                }
                try {
                    return m.invoke(chip, values).toString();
                } catch (InvocationTargetException e) {
                    return e.getCause().getClass().getSimpleName();
                }
            }
        }
        return "no such call";
    }
}
