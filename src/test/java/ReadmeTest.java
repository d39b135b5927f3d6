import java.io.IOException;
import java.lang.reflect.Method;
import java.lang.reflect.Modifier;
import java.nio.file.Files;
import java.nio.file.Path;
import java.util.List;
import java.util.regex.Matcher;
import java.util.regex.Pattern;

/** README.md says how to use the class and how to run its tests: what it says there is so. */
public final class ReadmeTest {
    private static final Pattern TEXT = Pattern.compile("String text = \"(.*)\";");
    private static final Pattern ANSWERED = Pattern.compile("x\\.(\\w+\\(.*\\)); +// (-?\\d+): .*");

    public static void main(String[] args) throws IOException {
        answers(Files.readAllLines(Path.of("README.md")));
        namesEveryCall(Files.readString(Path.of("README.md")));
        namesEveryTest(Files.readString(Path.of("README.md")));
        Due.end();
    }

    /** All calls of the page are made on one object, in their order. */
    private static void answers(List<String> lines) {
        LeavesBeforeWind x = new LeavesBeforeWind();
        int answers = 0;
        for (String line : lines) {
            Matcher text = TEXT.matcher(line), answered = ANSWERED.matcher(line);
            if (text.matches()) Due.feed(x, text.group(1));
            if (!answered.matches()) continue;
            String call = answered.group(1);
            Due.is("README.md: " + call, Refusal.call(x, call), Long.parseLong(answered.group(2)));
            answers++;
        }
        Due.is("answers in README.md, twenty and more", answers >= 20 ? 1 : 0, 1);
    }

    private static void namesEveryCall(String page) {
        for (Method m : LeavesBeforeWind.class.getDeclaredMethods()) {
            if (!Modifier.isPublic(m.getModifiers())) continue;
            Due.is("README.md names `" + m.getName() + "`", page.contains("`" + m.getName() + "`") ? 1 : 0, 1);
        }
    }

    private static void namesEveryTest(String page) throws IOException {
        try (var files = Files.list(Path.of("src/test/java"))) {
            for (Path file : files.toList()) {
                String name = file.getFileName().toString().replace(".java", "");
                boolean ofSentences = name.startsWith("EdgesOf") || name.startsWith("TermsOf");
                if (!name.endsWith("Test") || ofSentences) continue;
                Due.is("README.md names `" + name + "`", page.contains("`" + name + "`") ? 1 : 0, 1);
            }
        }
    }
}
