import java.io.IOException;
import java.lang.reflect.Method;
import java.lang.reflect.Modifier;
import java.nio.file.Files;
import java.nio.file.Path;
import java.util.ArrayList;
import java.util.HashMap;
import java.util.List;
import java.util.Map;
import java.util.regex.Matcher;
import java.util.regex.Pattern;

/** README.md: its examples answer what stands behind them, its method is the one below, and it names every call. */
final class ReadmeTest {
    private static final Pattern CALL =
        Pattern.compile("(?:int (\\w+) = )?(?:x\\.)?(\\w+)\\((.*)\\);\\s*// (-?\\d+|true|false)(?::.*)?");
    private static final String NEW_OBJECT = "StampedRows x = new StampedRows();";
    private static final int LEAST_CALLS = 40;

    private final Map<String, Object> variables = new HashMap<>();
    private StampedRows x = new StampedRows();
    private int calls;

    private ReadmeTest() {
    }

    public static void main(String[] args) throws IOException {
        String page = Files.readString(Path.of("README.md"));
        List<String> blocks = javaBlocks(page);
        ReadmeTest test = new ReadmeTest();
        for (String block : blocks) {
            if (block.startsWith("static ")) {
                standsHere(block);
            } else {
                test.example(block);
            }
        }
        Check.isTrue("at least " + LEAST_CALLS + " calls: " + test.calls, test.calls >= LEAST_CALLS);
        namesEveryCall(page);
        Check.end();
    }

    // README.md has this method as it stands here
    static int tell(StampedRows x, String text) {
        int[] fours = new int[(text.length() + 19) / 20 * 5];
        for (int i = 0; i < fours.length * 4; i++) {
            fours[i / 4] = fours[i / 4] << 8 | (i < text.length() ? text.charAt(i) & 255 : ' ');
        }
        for (int i = 0; i < fours.length; i += 5) {
            x.feed(fours[i], fours[i + 1], fours[i + 2], fours[i + 3], fours[i + 4]);
        }
        return x.store(text.length());
    }

    private static List<String> javaBlocks(String page) {
        List<String> blocks = new ArrayList<>();
        Matcher m = Pattern.compile("(?s)```java\n(.*?)```").matcher(page);
        while (m.find()) {
            blocks.add(m.group(1));
        }
        return blocks;
    }

    private static void standsHere(String block) throws IOException {
        String here = Files.readString(Path.of("src/test/java/ReadmeTest.java"));
        Check.isTrue("README's method is the test's: " + block, oneBlank(here).contains(oneBlank(block)));
    }

    private static String oneBlank(String text) {
        return text.replaceAll("\\s+", " ").trim();
    }

    private static void namesEveryCall(String page) {
        for (Method m : StampedRows.class.getDeclaredMethods()) {
            Check.isTrue("README names " + m.getName(),
                !Modifier.isPublic(m.getModifiers()) || page.contains("`" + m.getName() + "`"));
        }
    }

    private void example(String block) {
        for (String line : block.split("\n")) {
            if (line.equals(NEW_OBJECT)) {
                x = new StampedRows();
                variables.clear();
            } else if (!line.startsWith("//")) {
                line(line);
            }
        }
    }

    private void line(String line) {
        Matcher m = CALL.matcher(line);
        if (!m.matches()) {
            Check.isTrue("README's line is a call and its answer: " + line, false);
            return;
        }
        Object got = m.group(2).equals("tell") ? Integer.valueOf(tell(x, unquoted(m.group(3)))) : call(m.group(2), m.group(3));
        Check.isTrue(line + " (answered " + got + ")", String.valueOf(got).equals(m.group(4)));
        variables.put(m.group(1), got);
        calls++;
    }

    private static String unquoted(String arguments) {
        return arguments.replaceFirst("^x, \"", "").replaceFirst("\"$", "");
    }

    private Object call(String name, String arguments) {
        String[] parts = arguments.isEmpty() ? new String[0] : arguments.split(", ");
        Object[] values = new Object[parts.length];
        for (int i = 0; i < parts.length; i++) {
            values[i] = valueOf(parts[i]);
        }
        try {
            for (Method m : StampedRows.class.getDeclaredMethods()) {
                if (m.getName().equals(name)) {
                    return m.invoke(x, values);
                }
            }
        } catch (ReflectiveOperationException | IllegalArgumentException e) {
            return e;
        }
        return "no such call";
    }

    private Object valueOf(String argument) {
        if (argument.equals("true") || argument.equals("false")) {
            return Boolean.valueOf(argument);
        }
        return argument.matches("-?\\d+") ? Integer.valueOf(argument) : variables.get(argument);
    }
}
