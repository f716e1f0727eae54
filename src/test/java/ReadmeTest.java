import java.io.IOException;
import java.lang.reflect.Method;
import java.lang.reflect.Modifier;
import java.nio.file.DirectoryStream;
import java.nio.file.Files;
import java.nio.file.Path;
import java.util.HashMap;
import java.util.Map;
import java.util.regex.Matcher;
import java.util.regex.Pattern;

/** What README.md says: its example answers as it says there, and it names every call and every test. */
final class ReadmeTest {
    private static final String FIRST_ROW = "ConfigBeacon x = new ConfigBeacon();";
    /** A variable perhaps, the call, its arguments, and its answer if it has one. */
    private static final Pattern ROW =
            Pattern.compile("(?:int (\\w+) = )?x\\.(\\w+)\\((.*)\\);(?:\\s*// = (\\S+))?");

    private final ConfigBeacon x = new ConfigBeacon();
    private final Map<String, Integer> numbers = new HashMap<>();

    private void row(String line) throws ReflectiveOperationException {
        Matcher row = ROW.matcher(line);
        if (!row.matches()) {
            Check.due("README.md: the form of " + line, "unknown", "a call");
            return;
        }
        String answer = Answers.call(x, row.group(2), arguments(row.group(3)));
        Check.due("README.md: " + line, answer, row.group(4) == null ? "null" : row.group(4));
        if (row.group(1) != null) {
            numbers.put(row.group(1), Integer.parseInt(answer));
        }
    }

    private int[] arguments(String told) throws ReflectiveOperationException {
        String[] parts = told.isEmpty() ? new String[0] : told.split(", ");
        int[] arguments = new int[parts.length];
        for (int k = 0; k < parts.length; k++) {
            arguments[k] = number(parts[k]);
        }
        return arguments;
    }

    private int number(String told) throws ReflectiveOperationException {
        if (told.startsWith("ConfigBeacon.")) {
            return ConfigBeacon.class.getField(told.substring("ConfigBeacon.".length())).getInt(null);
        }
        return numbers.containsKey(told) ? numbers.get(told) : Integer.parseInt(told);
    }

    private static void example(String readme) throws ReflectiveOperationException {
        int start = readme.indexOf("```java\n") + "```java\n".length();
        String[] lines = readme.substring(start, readme.indexOf("\n```", start)).split("\n+");
        Check.due("README.md: the first line of the example", lines[0], FIRST_ROW);
        ReadmeTest test = new ReadmeTest();
        for (int k = 1; k < lines.length; k++) {
            test.row(lines[k]);
        }
    }

    private static void names(String readme) throws IOException {
        for (Method method : ConfigBeacon.class.getDeclaredMethods()) {
            if (Modifier.isPublic(method.getModifiers())) {
                Check.due("README.md tells of " + method.getName(), readme.contains("`" + method.getName() + "`"), true);
            }
        }
        try (DirectoryStream<Path> tests = Files.newDirectoryStream(Path.of("src/test/java"), "*Test.java")) {
            for (Path test : tests) {
                String name = test.getFileName().toString().replace(".java", "");
                Check.due("README.md tells of " + name, readme.contains("| " + name + " |"), true);
            }
        }
    }

    public static void main(String[] args) throws IOException, ReflectiveOperationException {
        String readme = Files.readString(Path.of("README.md"));
        example(readme);
        names(readme);
        Check.end("ReadmeTest");
    }
}
