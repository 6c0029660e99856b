import java.io.IOException;
import java.nio.file.Files;
import java.nio.file.Path;
import java.util.regex.Matcher;
import java.util.regex.Pattern;

/** What README.md shows of calls and answers is so. */
final class ReadmeTests {
    private static final Path README = Path.of("README.md");
    private static final Pattern CALL = Pattern.compile("x\\.(\\w+)\\((.*)\\); +// (\"[^\"]*\"|-?\\w+)(: .+)?");
    private static final int LEAST_CALLS = 20;

    private final Tests tests;
    private Caller caller = new Caller(new Sortpocket());
    private int calls;

    ReadmeTests(Tests tests) {
        this.tests = tests;
    }

    void all() {
        boolean isShown = false;
        try {
            for (String line : Files.readAllLines(README)) {
                if (line.startsWith("```")) {
                    isShown = line.equals("```java");
                } else if (isShown) {
                    show(line);
                }
            }
        } catch (IOException e) {
            tests.same("README.md can be read", e.toString(), "");
        }
        tests.same("README.md shows calls", calls >= LEAST_CALLS, true);
    }

    private void show(String line) {
        if (line.equals("Sortpocket x = new Sortpocket();")) {
            caller = new Caller(new Sortpocket());
            return;
        }
        Matcher call = CALL.matcher(line);
        tests.same("README.md shows a call and its answer by: " + line, call.matches(), true);
        if (call.matches()) {
            String answer = caller.call(call.group(1), argumentsOf(call.group(2)));
            String due = call.group(3).replace("\"", "");
            tests.same("README.md: " + line, answer, due.endsWith("Exception") ? "throws." + due : due);
            calls++;
        }
    }

    private static Object[] argumentsOf(String text) {
        if (text.isEmpty()) {
            return new Object[0];
        }
        String[] parts = text.split(", ");
        Object[] arguments = new Object[parts.length];
        for (int k = 0; k < parts.length; k++) {
            boolean isChoice = parts[k].equals("true") || parts[k].equals("false");
            arguments[k] = isChoice ? (Object) Boolean.valueOf(parts[k]) : (Object) Integer.valueOf(parts[k]);
        }
        return arguments;
    }
}
