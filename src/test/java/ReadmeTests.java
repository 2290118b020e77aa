import java.io.IOException;
import java.lang.reflect.Method;
import java.lang.reflect.Modifier;
import java.nio.file.Files;
import java.nio.file.Path;
import java.util.Arrays;
import java.util.List;
import java.util.regex.Matcher;
import java.util.regex.Pattern;

/** README.md's examples, answer by answer, and that it names every call and every test. */
public final class ReadmeTests {
    private static final Checks CHECKS = new Checks("readme");
    private static final Pattern CALL = Pattern.compile("inn\\.(\\w+)\\(([-0-9, ]*)\\);\\s+// (-?\\d+): .+");
    private static final Pattern LAW = Pattern.compile("String law = \"(.*)\";");
    private static final String BEGIN = "QuestionsInAnInn inn = new QuestionsInAnInn();";
    private static final String FEED = "for (int i = 0; i < law.length(); i++) inn.feed(1, law.charAt(i), 0, 0, 0, 0);";

    private QuestionsInAnInn inn;
    private String law = "";

    public static void main(String[] args) throws IOException, ReflectiveOperationException {
        List<String> page = Files.readAllLines(Path.of("README.md"));
        new ReadmeTests().answersAreAsTold(page);
        namesEveryCall(String.join("\n", page));
        namesEveryTest(String.join("\n", page));
        CHECKS.end();
    }

    /** All examples of the page are one run, from its first line to its last. */
    private void answersAreAsTold(List<String> page) throws ReflectiveOperationException {
        boolean inExample = false;
        int calls = 0;
        for (String line : page) {
            if (line.startsWith("```")) {
                inExample = line.equals("```java");
            } else if (inExample) {
                calls++;
                follow(line);
            }
        }
        CHECKS.isTrue("the page has an example", calls > 0);
    }

    private void follow(String line) throws ReflectiveOperationException {
        Matcher call = CALL.matcher(line);
        Matcher text = LAW.matcher(line);
        if (line.equals(BEGIN)) {
            inn = new QuestionsInAnInn();
        } else if (text.matches()) {
            law = text.group(1);
        } else if (line.equals(FEED)) {
            for (int i = 0; i < law.length(); i++) inn.feed(1, law.charAt(i), 0, 0, 0, 0);
        } else if (call.matches()) {
            CHECKS.due(line, answerOf(call.group(1), call.group(2)), Long.parseLong(call.group(3)));
        } else {
            CHECKS.isTrue("a line that no test can follow: " + line, false);
        }
    }

    private long answerOf(String name, String numbers) throws ReflectiveOperationException {
        Object[] args = Arrays.stream(numbers.split(", ")).filter(n -> !n.isEmpty()).map(Integer::valueOf).toArray();
        Class<?>[] types = new Class<?>[args.length];
        Arrays.fill(types, int.class);
        Method method = QuestionsInAnInn.class.getMethod(name, types);
        return ((Number) method.invoke(inn, args)).longValue();
    }

    private static void namesEveryCall(String page) {
        for (Method method : QuestionsInAnInn.class.getDeclaredMethods()) {
            if (!Modifier.isPublic(method.getModifiers())) continue;
            CHECKS.isTrue("not on the page: " + method.getName(), page.contains("`" + method.getName() + "`"));
        }
    }

    private static void namesEveryTest(String page) throws IOException {
        try (var files = Files.list(Path.of("src/test/java"))) {
            for (Path file : (Iterable<Path>) files::iterator) {
                String name = file.getFileName().toString().replace(".java", "");
                if (!name.endsWith("Tests")) continue;
                CHECKS.isTrue("not on the page: " + name, page.contains("`" + name + "`"));
            }
        }
    }
}
