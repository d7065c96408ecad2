import java.io.IOException;
import java.lang.reflect.InvocationTargetException;
import java.lang.reflect.Method;
import java.nio.file.Files;
import java.nio.file.Path;
import java.util.Arrays;
import java.util.HashMap;
import java.util.List;
import java.util.Map;
import java.util.regex.Matcher;
import java.util.regex.Pattern;

/** Runs the example of README.md line by line, and compares what it tells with the answers. */
public final class ReadmeTest {
    private static final Pattern LINE =
            Pattern.compile("(?:int (\\w+) = )?maze\\.(\\w+)\\(([^)]*)\\); +// ([^:]+)(?::.*)?");
    private static final int LEAST_LINES = 20;

    private final Pagemaze maze = new Pagemaze();
    private final Map<String, Object> variables = new HashMap<>();

    private ReadmeTest() {
    }

    public static void main(String[] args) throws IOException, ReflectiveOperationException {
        // .ci/run starts each test in the folder of the project.
        String text = Files.readString(Path.of("README.md"));
        String example = text.substring(text.indexOf("```java\n") + 8);
        List<String> lines = example.substring(0, example.indexOf("```")).lines().toList();
        ReadmeTest test = new ReadmeTest();
        Check.due("the first line", lines.get(0), "Pagemaze maze = new Pagemaze();");
        for (String line : lines.subList(1, lines.size())) {
            test.run(line);
        }
        Check.due("an example of many lines", lines.size() >= LEAST_LINES, true);
        Check.end();
    }

    private void run(String line) throws ReflectiveOperationException {
        Matcher matcher = LINE.matcher(line);
        Check.due(line + " is a call with its answer", matcher.matches(), true);
        if (matcher.matches()) {
            Object answer = call(matcher.group(2), matcher.group(3));
            Check.due(line, asText(answer), matcher.group(4));
            variables.put(matcher.group(1), answer);
        }
    }

    private Object call(String name, String arguments) throws ReflectiveOperationException {
        Object[] values = arguments.isEmpty()
                ? new Object[0] : Arrays.stream(arguments.split(", ")).map(this::value).toArray();
        for (Method method : Pagemaze.class.getMethods()) {
            if (method.getName().equals(name)) {
                try {
                    return method.invoke(maze, values);
                } catch (InvocationTargetException e) {
                    return "throws." + e.getCause().getClass().getSimpleName();
                }
            }
        }
        return "no such call";
    }

    private Object value(String word) {
        if (word.startsWith("'")) {
            return word.charAt(1);
        }
        return variables.containsKey(word) ? variables.get(word) : (Object) Integer.valueOf(word);
    }

    private static String asText(Object answer) {
        return answer instanceof Character ? "'" + answer + "'" : String.valueOf(answer);
    }
}
