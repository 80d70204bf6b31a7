import java.io.IOException;
import java.lang.reflect.Method;
import java.nio.charset.StandardCharsets;
import java.nio.file.DirectoryStream;
import java.nio.file.Files;
import java.nio.file.Path;
import java.util.HashSet;
import java.util.List;
import java.util.Set;
import java.util.regex.Matcher;
import java.util.regex.Pattern;

/** README.md says how the class is used and how its tests are run, and what it says is so. Run from the project's folder. */
public final class ReadmeTests {
    private static final Pattern CALL = Pattern.compile("x\\.(\\w+)\\(([^)]*)\\); +// (-?\\d+|true|false)\\b.*");
    /** A text fed and taken, an HOUR, an ACT undone, something asked. */
    private static final List<String> SHOWN = List.of("feed", "end", "ring", "rule", "hour", "undo", "house", "sees", "day");

    public static void main(String[] args) throws Exception {
        String readme = Files.readString(Path.of("README.md"), StandardCharsets.UTF_8);
        use(readme);
        tests(readme);
        Checks.finish();
    }

    private static void use(String readme) throws Exception {
        Matcher block = Pattern.compile("(?s)## Use\n.*?```java\n(.*?)```").matcher(readme);
        Checks.due("'Use' has calls", block.find(), true);
        String[] lines = block.group(1).split("\n");
        Checks.due("it begins with a new object", lines[0].equals("TurnRing x = new TurnRing();"), true);
        TurnRing x = new TurnRing();
        Set<String> called = new HashSet<>();
        for (int i = 1; i < lines.length; i++) {
            if (lines[i].isEmpty() || lines[i].startsWith("//")) continue;
            Matcher call = CALL.matcher(lines[i]);
            boolean reads = call.matches();
            Checks.due("a call and its answer: " + lines[i], reads, true);
            if (!reads) continue;
            called.add(call.group(1));
            String answer = String.valueOf(called(x, call.group(1), call.group(2)));
            Checks.due("README's " + lines[i] + " (it answers " + answer + ")", answer.equals(call.group(3)), true);
        }
        for (String name : SHOWN) Checks.due("README shows " + name, called.contains(name), true);
    }

    private static Object called(TurnRing x, String name, String arguments) throws Exception {
        String[] words = arguments.isEmpty() ? new String[0] : arguments.split(", *");
        for (Method m : TurnRing.class.getMethods()) {
            if (!m.getName().equals(name) || m.getParameterCount() != words.length) continue;
            Object[] values = new Object[words.length];
            for (int i = 0; i < words.length; i++) {
                if (m.getParameterTypes()[i] == boolean.class) values[i] = words[i].equals("true");
                else values[i] = (int) (long) Long.decode(words[i]);
            }
            return m.invoke(x, values);
        }
        return "no such call";
    }

    private static void tests(String readme) throws IOException {
        Checks.due("README names the command that runs the tests", readme.contains("`.ci/run`"), true);
        Checks.due("which can be run", Files.isExecutable(Path.of(".ci/run")), true);
        try (DirectoryStream<Path> files = Files.newDirectoryStream(Path.of("src/test/java"), "*.java")) {
            for (Path file : files) {
                String name = file.getFileName().toString().replace(".java", "");
                Checks.due("README names " + name, readme.contains("`" + name + "`"), true);
            }
        }
    }
}
