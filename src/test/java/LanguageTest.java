import java.io.IOException;
import java.nio.file.Files;
import java.nio.file.Path;
import java.util.LinkedHashMap;
import java.util.Map;
import java.util.regex.Matcher;
import java.util.regex.Pattern;

/** Looks for what ../shared/LANGUAGE.md rules out, as far as words of the program show it. */
final class LanguageTest {
    private static final Path PROGRAM = Path.of("src/main/java/Privacyledger.java");

    private static final Check CHECK = new Check();

    public static void main(String[] args) throws IOException {
        String code = withoutCommentsAndTexts(Files.readString(PROGRAM));
        for (Map.Entry<String, String> rule : ruledOut().entrySet()) {
            Matcher found = Pattern.compile(rule.getValue()).matcher(code);
            while (found.find()) {
                CHECK.report(rule.getKey() + ": " + found.group());
            }
        }
        CHECK.end();
    }

    private static Map<String, String> ruledOut() {
        Map<String, String> rules = new LinkedHashMap<>();
        rules.put("a package line", "\\bpackage\\b");
        rules.put("rule 2, a lambda or a method reference", "->|::");
        rules.put("rule 4, an import beyond the list",
                "\\bimport\\s+(?!java\\.util\\.(ArrayList|List|Arrays|Iterator"
                        + "|NoSuchElementException);)[^;]*;");
        rules.put("rule 4, a function beyond the list", "\\w*Exact\\b|\\bMath\\.random\\b");
        rules.put("rule 5, static state", "\\bstatic\\s+(?!final\\b)\\w+(\\[\\])?\\s+\\w+\\s*[=;]");
        rules.put("rule 5, a static initialiser block", "\\bstatic\\s*\\{");
        rules.put("rule 6", "\\b(finally|synchronized|assert|getMessage)\\b");
        rules.put("rule 6, an exception beyond the list",
                "\\bthrow\\s+(?!new\\s+(IllegalStateException|IllegalArgumentException"
                        + "|IndexOutOfBoundsException)\\()[^;]*;");
        rules.put("a catch, which this program has no need of", "\\bcatch\\b");
        rules.put("rule 6, equals, hashCode or toString of one's own",
                "\\b(equals|hashCode|toString)\\b");
        rules.put("rule 13",
                "\\b(System\\.(?!arraycopy\\b)\\w+|Random|Thread|java\\.(io|nio|net))\\b");
        return rules;
    }

    private static String withoutCommentsAndTexts(String source) {
        return source.replaceAll("(?s)/\\*.*?\\*/", " ")
                .replaceAll("//[^\n]*", " ")
                .replaceAll("\"[^\"\n]*\"", "\"\"");
    }
}
