import java.io.IOException;
import java.io.UncheckedIOException;
import java.nio.file.Files;
import java.nio.file.Path;
import java.util.List;

/** What can be told by the text of the program about the rules of ../shared/LANGUAGE.md. */
final class LanguageTests {
    private static final String[] FORBIDDEN = {"->", "::", "throw ", "catch ", "finally", "synchronized",
        "assert ", "Exact", "@Override", "String.format", "System.out", "System.nanoTime", "Random", "\" +"};

    private LanguageTests() {
    }

    static void all(Checks checks) {
        checks.test("the language: imports and words", LanguageTests::words);
        checks.test("the language: rows are made in constructors alone", LanguageTests::objects);
        checks.test("the language: short methods", LanguageTests::shortMethods);
    }

    // The tests are run from the root of the project.
    private static List<String> lines() {
        try {
            return Files.readAllLines(Path.of("src/main/java/RoofOrdinances.java"));
        } catch (IOException fault) {
            throw new UncheckedIOException(fault);
        }
    }

    private static void words(Checks c) {
        for (String line : lines()) {
            if (line.startsWith("import ") && !line.equals("import java.util.Arrays;")) {
                c.tell("an import: " + line);
            }
            for (String word : FORBIDDEN) {
                if (line.contains(word)) {
                    c.tell("the word " + word + " in: " + line);
                }
            }
        }
    }

    // No call makes an object, however often it is called: all of them live in one room.
    private static void objects(Checks c) {
        String method = "";
        for (String line : lines()) {
            if (isHeader(line)) {
                method = line.trim();
            }
            boolean isField = line.matches(" +(private )?final .* = new .*;");
            boolean isInConstructor = method.matches("(public )?[A-Z]\\w*\\(.*");
            if (line.contains("new ") && !line.contains("//") && !isField && !isInConstructor) {
                c.tell("an object is made in " + method + " " + line.trim());
            }
        }
    }

    private static void shortMethods(Checks c) {
        String end = "";
        int length = 0;
        for (String line : lines()) {
            if (isHeader(line)) {
                end = line.substring(0, line.length() - line.stripLeading().length()) + "}";
                length = 0;
            }
            length++;
            if (line.equals(end) && length > 60) {
                c.tell("a method of " + length + " lines");
            }
        }
        c.due("the last method has an end", length > 0 && length < 60 ? 1 : 0, 1);
    }

    private static boolean isHeader(String line) {
        return line.matches(" +(\\w.*)?\\w+\\(.*\\) \\{") && !line.matches(" +(if|for|while|switch|\\}).*");
    }
}
