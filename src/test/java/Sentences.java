import java.io.IOException;
import java.nio.file.Files;
import java.nio.file.Path;
import java.util.LinkedHashMap;
import java.util.Map;

/**
 * The document's sentences, each with its own test. What is quoted here is marked in the document,
 * so that a sentence without a test shows in the end.
 */
final class Sentences {
    private static final Path DOCUMENT = Path.of("../shared/DOC.md");

    private static final Map<String, char[]> SECTIONS = new LinkedHashMap<>();
    private static String section = "";
    private static String chosen = "";

    private Sentences() {
    }

    /** Only sentences with these words in them, or in their section's name, are tested. */
    static void choose(String words) {
        chosen = words;
    }

    /** Without the document the tests stand as well; just nothing is held against its words. */
    static void read() throws IOException {
        if (!Files.exists(DOCUMENT)) {
            System.out.println("there is no " + DOCUMENT + ": no quote is looked at");
            return;
        }
        String name = "";
        for (String line : Files.readString(DOCUMENT).split("\n")) {
            if (line.startsWith("#")) {
                name = line.replaceFirst("#+ ", "").replaceFirst(":.*", "");
            } else {
                String text = new String(SECTIONS.getOrDefault(name, new char[0]));
                SECTIONS.put(name, (text + line + "\n").toCharArray());
            }
        }
    }

    static void section(String name) {
        section = name;
        if (!SECTIONS.isEmpty() && !SECTIONS.containsKey(name)) {
            Checks.wrong("the document has no section " + name);
        }
    }

    /** A sentence, or a part of one, and the test that fails if just that is broken. */
    static void holds(String words, Runnable test) {
        mark(words);
        String told = section + ": " + words;
        if (!told.contains(chosen)) {
            return;
        }
        Checks.about(told);
        try {
            test.run();
        } catch (RuntimeException e) {
            Checks.wrong("a call throws " + e + " at " + e.getStackTrace()[0]);
        }
        Checks.about("");
    }

    /** Words that name no case of their own. */
    static void bare(String words) {
        mark(words);
    }

    private static void mark(String words) {
        char[] text = SECTIONS.getOrDefault(section, new char[0]);
        int at = new String(text).indexOf(words);
        if (at < 0 && SECTIONS.containsKey(section)) {
            Checks.wrong("the document's section " + section + " does not say: " + words);
        }
        for (int i = 0; at >= 0 && i < words.length(); i++) {
            text[at + i] = ' ';
        }
    }

    /** What the terms and promises say that no test quotes is wrong. */
    static void nothingLeft() {
        boolean asked = false;
        for (Map.Entry<String, char[]> entry : SECTIONS.entrySet()) {
            String name = entry.getKey();
            asked = name.equals("Terms") || asked && !name.equals("Not promised");
            String left = new String(entry.getValue()).replaceAll("\\s+", " ");
            if (asked && left.matches(".*[A-Za-z0-9].*")) {
                Checks.wrong("no test quotes, of " + name + ": " + left);
            }
        }
    }
}
