import java.io.IOException;
import java.nio.file.Files;
import java.nio.file.Path;
import java.util.List;
import java.util.Set;
import java.util.regex.Matcher;
import java.util.regex.Pattern;

/** What of LANGUAGE.md can be seen in the words of the program's source. */
public final class LanguageTest {
    private static final Path PROGRAM = Path.of("src/main/java/InSyncLog.java");
    private static final Set<String> LIBRARY = Set.of("Math.max", "Math.min", "Math.abs",
            "Integer.bitCount", "Arrays.fill", "Arrays.copyOf", "Arrays.copyOfRange", "System.arraycopy");
    /** The document lets no call throw, so what has to do with exceptions is refused altogether. */
    private static final List<String> REFUSED = List.of("package", "protected", "throw", "throws", "try",
            "catch", "finally", "synchronized", "assert", "equals", "hashCode", "toString", "Thread", "Random");
    private static final Pattern METHOD =
            Pattern.compile("(?ms)^( +)((?:public|private) [^;={]*\\) \\{)$(.*?)^\\1\\}$");
    private static final int LONGEST_METHOD = 60;
    private static final int MOST_CLASSES = 12;

    private final Checks checks = new Checks();
    private final String source;

    private LanguageTest(String text) {
        this.source = text.replaceAll("(?s)/\\*.*?\\*/", "").replaceAll("//[^\n]*", "");
    }

    public static void main(String[] args) throws IOException {
        LanguageTest test = new LanguageTest(Files.readString(PROGRAM));
        test.library();
        test.refusedWords();
        test.sizes();
        test.checks.finish();
    }

    private void library() {
        checks.part("rule 4");
        Matcher line = Pattern.compile("import [^;]*;").matcher(source);
        while (line.find()) {
            checks.due(line.group() + " is of the library", true, line.group().equals("import java.util.Arrays;"));
        }
        checks.due("java. but in an import", false, line.replaceAll("").contains("java."));
        Matcher call = Pattern.compile("\\b([A-Z]\\w*\\.\\w+)\\(").matcher(source);
        while (call.find()) {
            checks.due(call.group(1) + " is of the library", true, LIBRARY.contains(call.group(1)));
        }
    }

    private void refusedWords() {
        checks.part("rules 1, 2, 5, 6, 13");
        for (String word : REFUSED) {
            checks.due("the word " + word, false, Pattern.compile("\\b" + word + "\\b").matcher(source).find());
        }
        checks.due("a lambda", false, source.contains("->"));
        checks.due("a method reference", false, source.contains("::"));
        checks.due("a static block", false, Pattern.compile("static\\s*\\{").matcher(source).find());
    }

    private void sizes() {
        checks.part("rule 11");
        checks.due("few classes", true, source.split("\\bclass ").length - 1 <= MOST_CLASSES);
        Matcher method = METHOD.matcher(source);
        int found = 0;
        while (method.find()) {
            found++;
            checks.due(method.group(2) + " is short", true, method.group(3).lines().count() < LONGEST_METHOD);
        }
        checks.due("methods are found", true, found > 20);
    }
}
