import java.io.IOException;
import java.lang.reflect.Method;
import java.nio.file.Files;
import java.nio.file.Path;
import java.util.List;
import java.util.regex.Matcher;
import java.util.regex.Pattern;
import java.util.stream.Stream;

/** README.md holds: its example answers as it says, its texts are read, and it names each call, each class and each test. */
public final class ReadmeTest {
    private static final Path README = Path.of("README.md");
    private static final Pattern CALL = Pattern.compile("x\\.(\\w+)\\((.*?)\\);(?:\\s*// (-?\\w+).*)?");
    private static final Pattern QUESTION = Pattern.compile("`((?:often|most) [^`]+)`");

    public static void main(String[] args) throws IOException, ReflectiveOperationException {
        String readme = Files.readString(README);
        example(readme);
        texts(readme);
        names(readme);
        Kit.finish("ReadmeTest");
    }

    private static String between(String text, String from, String to) {
        int at = text.indexOf(from);
        int end = text.indexOf(to, at + from.length());
        Kit.due("README has " + from.trim(), at >= 0 && end >= 0, true);
        return at >= 0 && end >= 0 ? text.substring(at + from.length(), end) : "";
    }

    /** Each line of the example is called; the word behind its stroke is the answer. */
    private static void example(String readme) throws ReflectiveOperationException {
        MendedThings x = new MendedThings();
        int calls = 0;
        for (String line : between(readme, "```java\n", "```").split("\n")) {
            Matcher call = CALL.matcher(line);
            if (call.matches()) {
                calls++;
                Object answer = called(x, call.group(1), call.group(2));
                Kit.due(line + " (it answered " + answer + ")", String.valueOf(answer).equals(call.group(3)), true);
            } else {
                Kit.due("no call: " + line, line.startsWith("// ") || line.equals("MendedThings x = new MendedThings();"), true);
            }
        }
        Kit.due("the example has calls", calls > 9, true);
    }

    private static Object called(MendedThings x, String name, String numbers) throws ReflectiveOperationException {
        Object[] values = numbers.isEmpty() ? new Object[0]
            : Stream.of(numbers.split(", ")).map(number -> (Object) Integer.decode(number)).toArray();
        Class<?>[] types = Stream.of(values).map(value -> int.class).toArray(Class<?>[]::new);
        return MendedThings.class.getMethod(name, types).invoke(x, values);
    }

    private static void texts(String readme) {
        String island = between(readme, "### An island, a question\n", "The statements");
        MendedThings x = new MendedThings();
        Kit.due("the island", Kit.island(x, island), 9);
        Kit.due("has no fault", x.fault(0), 0);
        Matcher question = QUESTION.matcher(readme);
        int questions = 0;
        while (question.find()) {
            questions++;
            Kit.ask(x, question.group(1));
            Kit.due(question.group(1) + " has no fault", x.fault(0), 0);
        }
        Kit.due("questions", questions, 2);
    }

    private static void names(String readme) throws IOException {
        String calls = between(readme, "| calls | for |", "What there is not");
        for (Method call : MendedThings.class.getMethods()) {
            if (call.getDeclaringClass() == MendedThings.class) {
                Kit.due("README names the call " + call.getName(), calls.contains("`" + call.getName() + "`"), true);
            }
        }
        for (Class<?> inside : MendedThings.class.getDeclaredClasses()) {
            Kit.due("README names " + inside, readme.contains("| `" + inside.getSimpleName() + "` |"), true);
        }
        try (Stream<Path> files = Files.list(Path.of("src/test/java"))) {
            List<String> tests = files.map(file -> file.getFileName().toString().replace(".java", "")).toList();
            for (String test : tests) {
                Kit.due("README names " + test, readme.contains("`" + test + "`"), true);
            }
        }
        Kit.due("README says how the tests run", readme.contains("    bash .ci/run\n"), true);
    }
}
