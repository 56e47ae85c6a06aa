import java.io.IOException;
import java.lang.reflect.InvocationTargetException;
import java.lang.reflect.Method;
import java.lang.reflect.Modifier;
import java.nio.charset.StandardCharsets;
import java.nio.file.Files;
import java.nio.file.Path;
import java.util.List;
import java.util.Set;
import java.util.TreeSet;
import java.util.regex.Matcher;
import java.util.regex.Pattern;

/**
 * The runs of calls that README.md shows, read from it and called one by one, with the answers that it tells; run from
 * the project's folder. A line of a run that is neither a new object nor a call with its answer is wrong, too.
 */
public final class ReadmeTest {
    private static final Path README = Path.of("README.md");
    private static final String NEW_CITY = "PaperBoys city = new PaperBoys();";
    private static final Pattern CALL = Pattern.compile("city\\.(\\w+)\\((.*?)\\);\\s+// (throws \\w+|[-\\w]+)(: .*)?");
    private static final int RUNS = 2;
    private static final int LEAST_CALLS = 50;

    private static PaperBoys city = null;
    private static int runs = 0;
    private static int calls = 0;

    private ReadmeTest() {
    }

    public static void main(String[] args) throws IOException, IllegalAccessException {
        List<String> lines = Files.readAllLines(README, StandardCharsets.UTF_8);
        boolean inRun = false;
        for (String line : lines) {
            if (line.startsWith("```")) {
                inRun = line.equals("```java");
                city = null;
            } else if (inRun) {
                runLine(line);
            }
        }
        Check.same("runs that README.md shows", runs, RUNS);
        Check.yes("calls that README.md shows: " + calls, calls >= LEAST_CALLS);
        namesOfTheFace(String.join("\n", lines));
        Check.end();
    }

    private static void runLine(String line) throws IllegalAccessException {
        Matcher call = CALL.matcher(line);
        if (line.equals(NEW_CITY)) {
            city = new PaperBoys();
            runs++;
        } else if (city != null && call.matches()) {
            calls++;
            String answer = answerOf(call.group(1), call.group(2));
            Check.yes("README.md: " + line + " answered " + answer, answer.equals(call.group(3)));
        } else {
            Check.yes("README.md: a line that can't be run: " + line, false);
        }
    }

    private static String answerOf(String name, String arguments) throws IllegalAccessException {
        String[] texts = arguments.isEmpty() ? new String[0] : arguments.split(", ");
        for (Method method : PaperBoys.class.getMethods()) {
            if (method.getName().equals(name) && method.getParameterCount() == texts.length) {
                try {
                    return String.valueOf(method.invoke(city, values(method, texts)));
                } catch (InvocationTargetException e) {
                    return "throws " + e.getCause().getClass().getSimpleName();
                }
            }
        }
        return "no such call";
    }

    private static Object[] values(Method method, String[] texts) {
        Object[] values = new Object[texts.length];
        for (int i = 0; i < texts.length; i++) {
            if (method.getParameterTypes()[i] == boolean.class) {
                values[i] = Boolean.valueOf(texts[i]);
            } else {
                values[i] = Long.decode(texts[i]).intValue();
            }
        }
        return values;
    }

    private static void namesOfTheFace(String readme) {
        Set<String> names = new TreeSet<>();
        for (Method method : PaperBoys.class.getDeclaredMethods()) {
            if (Modifier.isPublic(method.getModifiers())) {
                names.add(method.getName());
            }
        }
        for (String name : names) {
            Check.yes("README.md tells of " + name, readme.contains("`" + name + "`"));
        }
    }
}
