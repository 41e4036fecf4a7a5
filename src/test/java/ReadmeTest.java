import java.io.IOException;
import java.lang.reflect.Method;
import java.lang.reflect.Modifier;
import java.nio.file.Files;
import java.nio.file.Path;
import java.util.ArrayList;
import java.util.List;
import java.util.regex.Matcher;
import java.util.regex.Pattern;

/** What README.md shows is so: each line of code there answers the number written behind it. */
public final class ReadmeTest extends Kit {
    private static final Pattern LINE = Pattern.compile("x\\.(\\w+)\\((.*)\\);\\s+// (-?\\d+): .+");
    private static final String MAKES = "ThirteenthLoaf x = new ThirteenthLoaf();";

    public static void main(String[] args) throws IOException, ReflectiveOperationException {
        List<String> lines = Files.readAllLines(Path.of("README.md"));
        List<String> code = codeOf(lines);
        ThirteenthLoaf x = null;
        says("README.md");
        for (String line : code) {
            if (line.equals(MAKES)) {
                x = new ThirteenthLoaf();
            } else if (!line.isEmpty()) {
                runLine(x, line);
            }
        }
        due("lines of code, some at least", code.size() > 30 ? 1 : 0, 1);
        namesEveryCall(String.join("\n", lines));
        finish();
    }

    private static List<String> codeOf(List<String> lines) {
        List<String> code = new ArrayList<>();
        boolean within = false;
        for (String line : lines) {
            if (line.startsWith("```")) {
                within = line.equals("```java");
            } else if (within) {
                code.add(line);
            }
        }
        return code;
    }

    private static void runLine(ThirteenthLoaf x, String line) throws ReflectiveOperationException {
        Matcher parts = LINE.matcher(line);
        boolean canBeRead = parts.matches() && x != null;
        due("a line of code can be read: " + line, canBeRead ? 1 : 0, 1);
        if (canBeRead) {
            due(line, answer(x, parts.group(1), parts.group(2)), Long.parseLong(parts.group(3)));
        }
    }

    private static long answer(ThirteenthLoaf x, String name, String given)
            throws ReflectiveOperationException {
        String[] texts = given.isEmpty() ? new String[0] : given.split(", ");
        Object[] numbers = new Object[texts.length];
        Class<?>[] kinds = new Class<?>[texts.length];
        for (int i = 0; i < texts.length; i++) {
            numbers[i] = texts[i].equals("ThirteenthLoaf.NONE") ? ThirteenthLoaf.NONE
                    : Integer.decode(texts[i]);
            kinds[i] = int.class;
        }
        Object told = ThirteenthLoaf.class.getMethod(name, kinds).invoke(x, numbers);
        return ((Number) told).longValue();
    }

    private static void namesEveryCall(String text) {
        for (Method method : ThirteenthLoaf.class.getDeclaredMethods()) {
            if (Modifier.isPublic(method.getModifiers())) {
                boolean named = text.contains("`" + method.getName() + "`");
                due("names the call " + method.getName(), named ? 1 : 0, 1);
            }
        }
    }
}
