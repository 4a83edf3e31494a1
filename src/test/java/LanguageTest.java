import java.io.IOException;
import java.nio.file.Files;
import java.nio.file.Path;
import java.util.Set;
import java.util.TreeSet;
import java.util.regex.Matcher;
import java.util.regex.Pattern;

/**
 * What ../shared/LANGUAGE.md rules out and can be seen in the text of the class. It is narrower than
 * the rules where the class needs less than they leave: no catch, no library at all.
 */
public final class LanguageTest {
    private static final Checks CHECKS = new Checks("LanguageTest");
    private static final Path SOURCE = Path.of("src", "main", "java", "BorderHouse.java");
    private static final Set<String> TYPES = Set.of("BorderHouse", "Consignment", "IllegalArgumentException",
        "IllegalStateException", "IndexOutOfBoundsException");
    private static final String NOT_USED = "import|package|try|catch|finally|synchronized|assert|instanceof|switch"
        + "|protected|volatile|transient|native|this\\s*\\)|var|goto|enum|record|interface|abstract|super|long|double|float";

    public static void main(String[] args) throws IOException {
        String text = Files.readString(SOURCE);
        CHECKS.due("signs are 1 to 127", true, () -> text.chars().allMatch(c -> c > 0 && c < 128));
        String code = withoutTexts(text);
        words(code);
        statics(code);
        methods(code);
        CHECKS.finish();
    }

    /** Comments and the insides of texts say nothing about the code. */
    private static String withoutTexts(String text) {
        return text.replaceAll("(?s)/\\*.*?\\*/", "").replaceAll("//[^\n]*", "").replaceAll("\"[^\"\n]*\"", "\"\"");
    }

    private static Set<String> found(String code, String pattern) {
        Set<String> found = new TreeSet<>();
        Matcher matcher = Pattern.compile(pattern).matcher(code);
        while (matcher.find()) {
            found.add(matcher.group());
        }
        return found;
    }

    private static void words(String code) {
        CHECKS.due("words that it needs not", Set.of(), () -> found(code, "\\b(" + NOT_USED + ")\\b"));
        CHECKS.due("lambdas and method references", Set.of(), () -> found(code, "->|::"));
        CHECKS.due("library calls", Set.of(), () -> found(code, "\\b(Math|System|Arrays|Integer|String|Object)\\b"));
        Set<String> types = found(code, "\\b[A-Z][A-Za-z]*[a-z][A-Za-z]*\\b");
        CHECKS.due("types", new TreeSet<>(TYPES), () -> types);
        CHECKS.due("throws of a written text", found(code, "throw [^;]*;"),
                () -> found(code, "throw new (IllegalArgument|IllegalState|IndexOutOfBounds)Exception\\(\"\"\\);"));
        CHECKS.due("one divisor, looked at before it divides", 1,
                () -> code.split("[/%]", -1).length - 1 + (code.contains("sampleStep != 0 && arrivals % sampleStep") ? 0 : 99));
    }

    private static void statics(String code) {
        for (String line : code.split("\n")) {
            String rest = line.trim();
            if (rest.contains(" static ") && rest.endsWith(";")) {
                CHECKS.due("static fields are final: " + rest, true, () -> rest.contains(" static final "));
            }
        }
        CHECKS.due("static initialisers", Set.of(), () -> found(code, "static\\s*\\{"));
        CHECKS.due("classes", 2, () -> code.split("\\bclass ", -1).length - 1);
    }

    private static void methods(String code) {
        int length = 0;
        for (String line : code.split("\n")) {
            boolean begins = line.matches("    (    )?(private |public |[a-z]+ |[A-Z][a-zA-Z]*)[^=;]*\\(.*")
                    && !line.matches("\\s*(return|throw|if|for|while|else)\\b.*");
            length = begins ? 0 : length + 1;
            if (begins) {
                CHECKS.due("seven parameters at most: " + line.trim(), true, () -> line.split(",").length <= 7);
            }
            if (line.matches("    (    )?}")) {
                int lines = length;
                CHECKS.due("a method of " + lines + " lines is short", true, () -> lines <= 60);
            }
        }
    }
}
