import java.io.IOException;
import java.lang.reflect.Method;
import java.lang.reflect.Modifier;
import java.nio.file.Files;
import java.nio.file.Path;
import java.util.List;
import java.util.regex.Matcher;
import java.util.regex.Pattern;
import java.util.stream.Stream;

/** README.md says how to use the class and how to run its tests, and its example answers as it says. */
public final class ReadmeTest {
    private static final Check CHECK = new Check("ReadmeTest");
    private static final Pattern CALL = Pattern.compile("forest\\.(.*\\));\\s*// (-?\\d+)\\b.*");

    public static void main(String[] args) throws IOException {
        String page = Files.readString(Path.of("README.md"));
        example(page);
        namesCalls(page);
        namesTests(page);
        CHECK.end();
    }

    private static void example(String page) {
        int begin = page.indexOf("```java\n");
        int end = page.indexOf("```\n", begin + 1);
        CHECK.holds("there is an example", begin >= 0 && end > begin);
        List<String> lines = page.substring(begin, end).lines().skip(1).toList();
        CHECK.holds("it makes an object", lines.get(0).equals("RaftForest forest = new RaftForest();"));
        RaftForest forest = new RaftForest();
        for (String line : lines.subList(1, lines.size())) {
            Matcher call = CALL.matcher(line);
            CHECK.holds("a call with its answer: " + line, call.matches());
            if (call.matches()) {
                CHECK.same(line, Calls.answer(forest, call.group(1)), Long.parseLong(call.group(2)));
            }
        }
    }

    private static void namesCalls(String page) {
        for (Method method : RaftForest.class.getDeclaredMethods()) {
            if (Modifier.isPublic(method.getModifiers())) {
                CHECK.holds("it names " + method.getName(), page.contains("`" + method.getName() + "`"));
            }
        }
    }

    private static void namesTests(String page) throws IOException {
        CHECK.holds("it says how to run them", page.contains("`.ci/run`"));
        try (Stream<Path> files = Files.list(Path.of("src/test/java"))) {
            for (Path file : files.sorted().toList()) {
                String name = file.getFileName().toString().replace(".java", "");
                if (name.endsWith("Test")) {
                    CHECK.holds("it names " + name, page.contains("`" + name + "`"));
                }
            }
        }
    }
}
