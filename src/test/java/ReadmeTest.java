import java.io.IOException;
import java.lang.reflect.Method;
import java.lang.reflect.Modifier;
import java.nio.file.Files;
import java.nio.file.Path;
import java.util.HashMap;
import java.util.Map;
import java.util.regex.Matcher;
import java.util.regex.Pattern;

/** What README.md shows: each call of its example answers as it says there, and no call is left out. */
public final class ReadmeTest {

    private static final Pattern EXAMPLE = Pattern.compile("(?s)```java\n(.*?)```");
    private static final String NEW = "WordsBeside beside = new WordsBeside();";
    private static final Pattern CALL = Pattern.compile(
            "(?:int (\\w+) = )?beside\\.(\\w+)\\((.*?)\\); +// (-?\\d+|true|false)\\b.*");
    private static final Pattern ROW = Pattern.compile("(?m)^\\| `(\\w+)\\((.*?)\\)` \\|");

    public static void main(String[] args) throws IOException {
        String text = Files.readString(Path.of("README.md"));
        holdExample(text);
        holdTable(text);
        Script.end();
    }

    private static void holdExample(String text) {
        Matcher example = EXAMPLE.matcher(text);
        if (!example.find()) {
            Script.fault("README.md shows no example");
            return;
        }
        Script script = new Script("README.md");
        Map<String, String> names = new HashMap<>();
        for (String line : example.group(1).split("\n")) {
            if (!line.equals(NEW)) {
                holdCall(script, line, names);
            }
        }
    }

    private static void holdCall(Script script, String line, Map<String, String> names) {
        Matcher call = CALL.matcher(line);
        if (!call.matches()) {
            Script.fault("README.md: no call with its answer: " + line);
            return;
        }
        StringBuilder told = new StringBuilder(call.group(2));
        for (String argument : call.group(3).split(", ")) {
            told.append(' ').append(names.getOrDefault(argument, argument));
        }
        String due = call.group(4).replace("true", "yes").replace("false", "no");
        if (call.group(1) != null) {
            names.put(call.group(1), due);
        }
        script.hold(told + " = " + due);
    }

    private static void holdTable(String text) {
        Map<String, Integer> rows = new HashMap<>();
        Matcher row = ROW.matcher(text);
        while (row.find()) {
            rows.put(row.group(1), row.group(2).isEmpty() ? 0 : row.group(2).split(", ").length);
        }
        Map<String, Integer> face = new HashMap<>();
        for (Method method : WordsBeside.class.getDeclaredMethods()) {
            if (Modifier.isPublic(method.getModifiers())) {
                face.put(method.getName(), method.getParameterCount());
            }
        }
        if (!rows.equals(face)) {
            Script.fault("README.md has rows for " + rows + ", the class has " + face);
        }
    }
}
