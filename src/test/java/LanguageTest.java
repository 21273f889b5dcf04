import java.io.IOException;
import java.lang.reflect.Field;
import java.lang.reflect.InvocationTargetException;
import java.lang.reflect.Method;
import java.lang.reflect.Modifier;
import java.nio.file.Files;
import java.nio.file.Path;
import java.util.Arrays;
import java.util.Comparator;
import java.util.LinkedHashMap;
import java.util.List;
import java.util.Map;
import java.util.function.Supplier;
import java.util.regex.Matcher;
import java.util.regex.Pattern;

/** Looks for what ../shared/LANGUAGE.md rules out, as far as the program's words and calls show. */
final class LanguageTest {
    private static final Path PROGRAM = Path.of("src/main/java/Privacyledger.java");

    private static final int MOST_LINES = 60;
    private static final int MOST_PARAMETERS = 7;
    private static final int MOST_FIELDS = 20;

    private static final int[] NUMBERS = {
        Integer.MIN_VALUE, Integer.MIN_VALUE + 1, -1001, -33, -32, -31, -1, 0, 1, 5, 6, 7, 8, 11,
        12, 29, 30, 31, 32, 63, 64, 255, 256, 1000, 1001, 3650, 3651, 1 << 30, Integer.MAX_VALUE};

    private static final Check CHECK = new Check();

    public static void main(String[] args) throws IOException, IllegalAccessException {
        String source = Files.readString(PROGRAM);
        words(withoutCommentsAndTexts(source));
        signs(source);
        lengths(Files.readAllLines(PROGRAM));
        numbersOfMembers();
        nothingElseIsThrown();
        CHECK.end();
    }

    private static void words(String code) {
        for (Map.Entry<String, String> rule : ruledOut().entrySet()) {
            Matcher found = Pattern.compile(rule.getValue()).matcher(code);
            while (found.find()) {
                CHECK.report(rule.getKey() + ": " + found.group());
            }
        }
    }

    private static Map<String, String> ruledOut() {
        Map<String, String> rules = new LinkedHashMap<>();
        rules.put("a package line", "\\bpackage\\b");
        rules.put("rule 2, a lambda or a method reference", "->|::");
        rules.put("rule 4, an import, which this program has no need of", "\\bimport\\b[^;]*;");
        rules.put("rule 4, a function beyond those of the list that the program has need of",
                "\\b(?!(Integer\\.bitCount|Math\\.max|Math\\.min)\\b)[A-Z]\\w*\\.\\w+");
        rules.put("rule 5, static state", "\\bstatic\\s+(?!final\\b)\\w+(\\[\\])?\\s+\\w+\\s*[=;]");
        rules.put("rule 5, a static initialiser block", "\\bstatic\\s*\\{");
        rules.put("rule 6", "\\b(finally|synchronized|assert|getMessage)\\b");
        rules.put("rule 6, an exception beyond the list",
                "\\bthrow\\s+(?!new\\s+(IllegalStateException|IllegalArgumentException"
                        + "|IndexOutOfBoundsException)\\(\"\"\\);)[^;]*;");
        rules.put("a catch, which this program has no need of", "\\b(try|catch)\\b");
        rules.put("rule 6, equals, hashCode or toString of one's own",
                "\\b(equals|hashCode|toString)\\b");
        rules.put("rule 12, an object that a call makes, beside exceptions",
                "(?m)^(?!    private final int\\[\\] \\w+ = new int\\[[A-Z_ *]+\\];)"
                        + ".*\\bnew\\s+(?!Ill|Index).*$");
        rules.put("rule 13",
                "\\b(System\\.(?!arraycopy\\b)\\w+|Random|Thread|java\\.(io|nio|net))\\b");
        return rules;
    }

    private static String withoutCommentsAndTexts(String source) {
        return source.replaceAll("(?s)/\\*.*?\\*/", " ")
                .replaceAll("//[^\n]*", " ")
                .replaceAll("\"[^\"\n]*\"", "\"\"");
    }

    private static void signs(String source) {
        for (int i = 0; i < source.length(); i++) {
            char sign = source.charAt(i);
            if (sign != '\n' && (sign < ' ' || sign > '~')) {
                CHECK.report("rule 4, a sign with the number " + (int) sign);
            }
        }
    }

    /** Methods stand in the class by four spaces, and end with a brace behind as many. */
    private static void lengths(List<String> lines) {
        int start = 0;
        for (int i = 0; i < lines.size(); i++) {
            String line = lines.get(i);
            if (line.matches("    (public|private) .*\\(.*[^;]")) {
                start = i;
            } else if (line.equals("    }") && i - start >= MOST_LINES) {
                CHECK.report("rule 11, a long method: " + lines.get(start));
            }
        }
    }

    private static void numbersOfMembers() {
        int fields = 0;
        for (Field field : Privacyledger.class.getDeclaredFields()) {
            fields += Modifier.isStatic(field.getModifiers()) ? 0 : 1;
            if (Modifier.isStatic(field.getModifiers())
                    && !Modifier.isFinal(field.getModifiers())) {
                CHECK.report("rule 5, static state: " + field);
            }
        }
        if (fields > MOST_FIELDS) {
            CHECK.report("rule 11, there are " + fields + " fields");
        }
        for (Method method : Privacyledger.class.getDeclaredMethods()) {
            if (method.getParameterCount() > MOST_PARAMETERS) {
                CHECK.report("rule 11, many parameters: " + method);
            }
        }
    }

    /** Rule 7 holds in any state, so in those after the 512th call as well. */
    private static void nothingElseIsThrown() throws IllegalAccessException {
        for (Supplier<Privacyledger> start : Starts.ALL) {
            callAll(start.get());
            callAll(afterTheLastDay(start.get()));
        }
    }

    /** So many days pass that their number wraps. */
    private static Privacyledger afterTheLastDay(Privacyledger x) {
        while (x.day() >= 0) {
            x.passDays(1000);
        }
        return x;
    }

    private static void callAll(Privacyledger x) throws IllegalAccessException {
        Method[] methods = Privacyledger.class.getDeclaredMethods();
        // Their order is free, and the test must be the same each time.
        Arrays.sort(methods, Comparator.comparing(Method::toString));
        for (Method method : methods) {
            if (!Modifier.isPublic(method.getModifiers())) {
                continue;
            }
            int count = method.getParameterCount();
            for (int first : count > 0 ? NUMBERS : new int[] {0}) {
                for (int second : count > 1 ? NUMBERS : new int[] {0}) {
                    call(x, method, first, second);
                }
            }
        }
    }

    private static void call(Privacyledger x, Method method, int first, int second)
            throws IllegalAccessException {
        Object[] arguments = new Object[method.getParameterCount()];
        for (int i = 0; i < arguments.length; i++) {
            int number = i == 0 ? first : second;
            boolean isBoolean = method.getParameterTypes()[i] == boolean.class;
            arguments[i] = isBoolean ? (Object) (number % 2 == 0) : (Object) number;
        }
        try {
            method.invoke(x, arguments);
        } catch (InvocationTargetException thrown) {
            Class<?> kind = thrown.getCause().getClass();
            if (!List.of(method.getExceptionTypes()).contains(kind)) {
                CHECK.report("rule 7, " + method.getName() + "(" + first + ", " + second
                        + ") threw " + kind.getName());
            }
        }
    }
}
