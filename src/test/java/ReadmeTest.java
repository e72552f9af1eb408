import java.io.IOException;
import java.lang.reflect.Method;
import java.lang.reflect.Modifier;
import java.nio.file.Files;
import java.nio.file.Path;
import java.util.Arrays;
import java.util.List;
import java.util.regex.Matcher;
import java.util.regex.Pattern;
import java.util.stream.Stream;

/** Every call in the example of README.md answers what stands beside it; no call and no test is left out. */
public final class ReadmeTest {
    private static final Pattern MAKE =
            Pattern.compile("InSyncLog log = new InSyncLog\\((-?\\d+, -?\\d+, -?\\d+)\\); +// .*");
    private static final Pattern CALL =
            Pattern.compile("log\\.(\\w+)\\(([^)]*)\\); +// (true|false|-?\\d+|NONE|FULL|FEW)(:.*)?");

    private final Checks checks = new Checks();
    private final List<String> readme;

    private ReadmeTest(List<String> readme) {
        this.readme = readme;
    }

    public static void main(String[] args) throws IOException, ReflectiveOperationException {
        ReadmeTest test = new ReadmeTest(Files.readAllLines(Path.of("README.md")));
        test.example();
        test.calls();
        test.tests();
        test.checks.finish();
    }

    private void example() throws ReflectiveOperationException {
        checks.part("the example of README.md");
        List<String> lines = readme.subList(readme.indexOf("```java") + 1, readme.size());
        Matcher make = MAKE.matcher(lines.get(0));
        if (!make.matches()) {
            checks.due("an object is made first", true, false);
            return;
        }
        int[] given = numbers(make.group(1));
        InSyncLog log = new InSyncLog(given[0], given[1], given[2]);
        for (String line : lines.subList(1, lines.indexOf("```"))) {
            Matcher call = CALL.matcher(line);
            checks.due(line, true, call.matches()
                    && answer(log, call.group(1), numbers(call.group(2))).equals(call.group(3)));
        }
    }

    private static int[] numbers(String list) {
        return Stream.of(list.split(", ")).filter(n -> !n.isEmpty()).mapToInt(Integer::parseInt).toArray();
    }

    private static String answer(InSyncLog log, String name, int[] given) throws ReflectiveOperationException {
        Class<?>[] types = new Class<?>[given.length];
        Arrays.fill(types, int.class);
        Object answer = InSyncLog.class.getMethod(name, types).invoke(log, Arrays.stream(given).boxed().toArray());
        return answer.equals(InSyncLog.NONE) ? "NONE" : answer.toString();
    }

    private void calls() {
        checks.part("README.md");
        for (Method m : InSyncLog.class.getDeclaredMethods()) {
            if (Modifier.isPublic(m.getModifiers())) {
                dueWords("`" + m.getName() + "(");
            }
        }
    }

    private void tests() throws IOException {
        checks.part("README.md");
        try (Stream<Path> files = Files.list(Path.of("src/test/java"))) {
            files.map(file -> file.getFileName().toString())
                .filter(name -> name.endsWith("Test.java"))
                .forEach(name -> dueWords("`" + name.replace(".java", "`")));
        }
    }

    private void dueWords(String words) {
        checks.due("has " + words, true, readme.stream().anyMatch(line -> line.contains(words)));
    }
}
