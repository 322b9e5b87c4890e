import java.io.IOException;
import java.lang.reflect.Method;
import java.lang.reflect.Modifier;
import java.nio.file.Files;
import java.nio.file.Path;
import java.util.regex.MatchResult;
import java.util.regex.Matcher;
import java.util.regex.Pattern;

/** README.md tells the truth: its examples are run, and each call of the face is named in it. */
public final class ReadmeTest {
    private static final Path README = Path.of("README.md");
    private static final Pattern EXAMPLE = Pattern.compile("(?s)```java\n(.*?)```");

    /** A call, kept in a variable or not, and a comment that begins with its answer and a colon. */
    private static final Pattern CALL =
            Pattern.compile("(?m)^(?:(\\w+) (\\w+) = )?(bank\\.\\w+\\(.*\\)); *// ([^:\n]+): .+$");

    public static void main(String[] args) throws Exception {
        String text = Files.readString(README);
        Matcher example = EXAMPLE.matcher(text);
        int examples = 0;
        while (example.find()) {
            examples++;
            runExample("ReadmeExample" + examples, example.group(1));
        }
        Checks.due("README.md holds examples", examples > 0, true);
        namesEachCall(text);
        namesEachTest(text);
        Checks.end();
    }

    /** The class is put where this one is, so that both are of one package and share the checks. */
    private static void runExample(String name, String lines) throws Exception {
        Path folder = Path.of(ReadmeTest.class.getProtectionDomain().getCodeSource().getLocation()
                .toURI());
        Path file = folder.resolve(name + ".java");
        Files.writeString(file, "final class " + name + " {\n    static void run() {\n"
                + withChecks(lines) + "    }\n}\n");
        int failed = new ProcessBuilder("javac", "-cp", folder.toString(), "-d", folder.toString(),
                file.toString()).inheritIO().start().waitFor();
        Checks.due("the compiler on an example of README.md", failed, 0);
        if (failed == 0) {
            Class.forName(name).getDeclaredMethod("run").invoke(null);
        }
    }

    private static String withChecks(String lines) {
        for (String line : lines.split("\n")) {
            boolean told = !line.startsWith("bank.") && !line.contains(" = bank.");
            Checks.due("\"" + line + "\" tells its answer", told || CALL.matcher(line).matches(),
                    true);
        }
        return CALL.matcher(lines).replaceAll(ReadmeTest::withCheck);
    }

    private static String withCheck(MatchResult call) {
        String kept = call.group(2) == null ? "" : call.group(1) + " " + call.group(2) + " = "
                + call.group(3) + "; ";
        String got = call.group(2) == null ? call.group(3) : call.group(2);
        return Matcher.quoteReplacement(kept + "Checks.due(\"README.md: " + call.group(3) + "\", "
                + got + ", " + call.group(4) + ");");
    }

    private static void namesEachCall(String text) {
        for (Method method : ChequeSerials.class.getDeclaredMethods()) {
            if (Modifier.isPublic(method.getModifiers())) {
                Checks.due("README.md names " + method.getName(),
                        text.contains("`" + method.getName() + "("), true);
            }
        }
    }

    private static void namesEachTest(String text) throws IOException {
        try (var files = Files.list(Path.of("src/test/java"))) {
            for (Path file : files.toList()) {
                String name = file.getFileName().toString().replace(".java", "");
                Checks.due("README.md names " + name,
                        !name.endsWith("Test") || text.contains("`" + name + "`"), true);
            }
        }
    }
}
