import java.io.IOException;
import java.lang.reflect.InvocationTargetException;
import java.lang.reflect.Method;
import java.nio.file.DirectoryStream;
import java.nio.file.Files;
import java.nio.file.Path;
import java.util.Arrays;
import java.util.List;
import java.util.regex.Matcher;
import java.util.regex.Pattern;

/** README.md: each line of its example answers as it says, each call and each test is named. */
public final class ReadmeTest {
    private static final Pattern CALL = Pattern.compile("x\\.(\\w+)\\((.*)\\); +// (-?\\d+|true|false)\\b.*");

    public static void main(String[] args) throws IOException, ReflectiveOperationException {
        String readme = Files.readString(Path.of("README.md"));
        example(readme.substring(readme.indexOf("```java\n") + 8, readme.lastIndexOf("```")));
        namesEachCall(readme);
        namesEachTest(readme);
        Check.finish();
    }

    private static void example(String lines) throws ReflectiveOperationException {
        LineKeeper x = new LineKeeper();
        int calls = 0;
        for (String line : lines.split("\n")) {
            Matcher matcher = CALL.matcher(line);
            if (matcher.matches()) {
                calls++;
                Check.due("README: " + line, answer(x, matcher.group(1), matcher.group(2)), matcher.group(3));
            } else {
                Check.due("README: a line of the example: " + line,
                    line.startsWith("//") || line.equals("LineKeeper x = new LineKeeper();"), true);
            }
        }
        Check.due("README: the example was found", calls > 30, true);
    }

    private static String answer(LineKeeper x, String name, String given) throws ReflectiveOperationException {
        String[] numbers = given.isEmpty() ? new String[0] : given.split(", ");
        Object[] values = Arrays.stream(numbers).map(Integer::decode).toArray();
        Class<?>[] types = new Class<?>[values.length];
        Arrays.fill(types, int.class);
        try {
            return String.valueOf(LineKeeper.class.getMethod(name, types).invoke(x, values));
        } catch (InvocationTargetException e) {
            return "thrown: " + e.getCause();
        }
    }

    private static void namesEachCall(String readme) {
        String use = readme.substring(readme.indexOf("## How the class is used"), readme.indexOf("```java\n"));
        for (Method method : LineKeeper.class.getDeclaredMethods()) {
            if (java.lang.reflect.Modifier.isPublic(method.getModifiers())) {
                Check.due("README: says how " + method.getName() + " is used", use.contains("`" + method.getName() + "("), true);
                Check.due("README: the example calls " + method.getName(), readme.contains("\nx." + method.getName() + "("), true);
            }
        }
        int last = -1;
        for (String name : List.of("new LineKeeper", "feed", "end", "read", "fault", "routine", "item", "frame", "told", "pass",
            "start", "go", "stack", "known", "value", "run", "printed", "beside", "compared")) {
            int at = use.indexOf(". `" + name + "(");
            Check.due("README: " + name + " stands behind the one ahead of it in a use", at > last, true);
            last = at;
        }
    }

    private static void namesEachTest(String readme) throws IOException {
        try (DirectoryStream<Path> files = Files.newDirectoryStream(Path.of("src", "test", "java"), "*.java")) {
            for (Path file : files) {
                String name = file.getFileName().toString().replace(".java", "");
                Check.due("README: names " + name, readme.contains("`" + name + "`"), true);
            }
        }
    }
}
