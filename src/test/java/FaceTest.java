import java.io.IOException;
import java.lang.reflect.Constructor;
import java.lang.reflect.Field;
import java.lang.reflect.Method;
import java.lang.reflect.Modifier;
import java.nio.file.Files;
import java.nio.file.Path;
import java.util.ArrayList;
import java.util.Arrays;
import java.util.HashSet;
import java.util.List;
import java.util.Set;
import java.util.TreeSet;
import java.util.regex.Matcher;
import java.util.regex.Pattern;

/** The public face, as the document has it, and nothing beside it. */
final class FaceTest {
    private static final Path DOCUMENT = Path.of("../shared/DOC.md");
    private static final Path PROGRAM = Path.of("src/main/java/Privacyledger.java");

    private static final Check CHECK = new Check();

    private static final String BOUNDS = "IndexOutOfBoundsException";
    private static final String ARGUMENT = "IllegalArgumentException";
    private static final String STATE = "IllegalStateException";

    public static void main(String[] args) throws IOException {
        theClass();
        theConstants();
        theConstructor();
        theMethods();
        privateNamesAreOthers();
        List<String> program = Files.readAllLines(PROGRAM);
        if (Files.isReadable(DOCUMENT)) {
            wordsOfTheDocument(Files.readString(DOCUMENT), String.join("\n", program));
        } else {
            System.out.println("there is no " + DOCUMENT + " to compare with");
        }
        headings(program);
        CHECK.end();
    }

    private static void theClass() {
        int modifiers = Privacyledger.class.getModifiers();
        CHECK.same("public", Modifier.isPublic(modifiers), true);
        CHECK.same("final", Modifier.isFinal(modifiers), true);
    }

    private static void theConstants() {
        CHECK.same("NONE", Privacyledger.NONE, -1);
        CHECK.same("PRESENT", Privacyledger.PRESENT, 0);
        CHECK.same("REQUESTED", Privacyledger.REQUESTED, 1);
        CHECK.same("ERASED", Privacyledger.ERASED, 2);
        Set<String> visible = new TreeSet<>();
        for (Field field : Privacyledger.class.getDeclaredFields()) {
            if (!Modifier.isPrivate(field.getModifiers())) {
                visible.add(Modifier.toString(field.getModifiers()) + " " + field.getName());
            }
        }
        compare(visible, List.of("public static final NONE", "public static final PRESENT",
                "public static final REQUESTED", "public static final ERASED"));
    }

    private static void theConstructor() {
        Set<String> visible = new TreeSet<>();
        for (Constructor<?> constructor : Privacyledger.class.getDeclaredConstructors()) {
            visible.add(constructor.toString());
        }
        compare(visible, List.of("public Privacyledger()"));
    }

    private static void theMethods() {
        Set<String> visible = new TreeSet<>();
        for (Method method : Privacyledger.class.getDeclaredMethods()) {
            if (!Modifier.isPrivate(method.getModifiers()) && !method.isSynthetic()) {
                visible.add(describe(method));
            }
        }
        compare(visible, List.of(
                face("int addPurpose(int,boolean)", ARGUMENT, STATE),
                face("int setRetention(int,int)", BOUNDS, ARGUMENT),
                face("boolean consent(int,int,boolean)", BOUNDS),
                face("int consents(int)", BOUNDS),
                face("int daysWithConsent(int,int)", BOUNDS),
                face("int add(int,int)", BOUNDS, ARGUMENT, STATE),
                face("int derive(int,int)", BOUNDS, ARGUMENT, STATE),
                face("int addSource(int,int)", BOUNDS, ARGUMENT, STATE),
                face("int records()"),
                face("int stateOf(int)", BOUNDS),
                face("int subjectsOf(int)", BOUNDS),
                face("int below(int)", BOUNDS),
                face("int endOf(int)", BOUNDS),
                face("int whyNoUse(int,int)", BOUNDS),
                face("int use(int,int)", BOUNDS, STATE),
                face("int uses(int,int)", BOUNDS),
                face("int passDays(int)", ARGUMENT),
                face("int day()"),
                face("int nextEnd()"),
                face("int hold(int,int)", BOUNDS, STATE),
                face("int close(int)", BOUNDS),
                face("int held()"),
                face("int request(int)", BOUNDS),
                face("int whyKept(int)", BOUNDS),
                face("int erase()"),
                face("int eraseAll()"),
                face("int traces(int)", BOUNDS),
                face("int tracesFromRoots(int)", BOUNDS),
                face("int due()")));
    }

    private static void privateNamesAreOthers() {
        Set<String> publicNames = new HashSet<>();
        for (Method method : Privacyledger.class.getMethods()) {
            publicNames.add(method.getName());
        }
        for (Method method : Privacyledger.class.getDeclaredMethods()) {
            if (Modifier.isPrivate(method.getModifiers())
                    && publicNames.contains(method.getName())) {
                CHECK.report("a private method is named " + method.getName());
            }
        }
    }

    /** Ahead of which calls the program says what the interface says ahead of them. */
    private static void headings(List<String> program) {
        List<String> got = new ArrayList<>();
        String heading = "";
        List<String> calls = new ArrayList<>();
        for (String line : program) {
            Matcher call = Pattern.compile("    public \\w+ (\\w+)\\(.*").matcher(line);
            if (line.startsWith("    // ---- ")) {
                addHeading(got, heading, calls);
                heading = line.substring(7);
                calls.clear();
            } else if (call.matches()) {
                calls.add("`" + call.group(1) + "`");
            }
        }
        addHeading(got, heading, calls);
        for (String due : Terms.HEADINGS) {
            CHECK.aheadOfPromises(due);
            CHECK.same("the program says so", got.remove(due), true);
        }
        for (String other : got) {
            CHECK.report("the program says: " + other);
        }
    }

    private static void addHeading(List<String> all, String heading, List<String> calls) {
        if (!calls.isEmpty()) {
            all.add("Ahead of the calls " + String.join(", ", calls) + " the interface says: "
                    + heading + ".");
        }
    }

    /** The document's lines stand in the program, word by word, in their order and no others. */
    private static void wordsOfTheDocument(String document, String program) {
        int start = document.indexOf("public final class Privacyledger {");
        List<String> due = publicLines(document.substring(start, document.indexOf("```", start)));
        List<String> got = publicLines(program.replaceAll("(?s)/\\*.*?\\*/", " ")
                .replaceAll("//[^\n]*", " "));
        for (int i = 0; i < Math.max(got.size(), due.size()); i++) {
            String line = i < due.size() ? due.get(i) : "nothing";
            String said = i < got.size() ? got.get(i) : "nothing";
            if (!said.equals(line)) {
                CHECK.report("the face says: " + said + " - due is: " + line);
            }
        }
        CHECK.same("the document's lines, of which 29 are calls", due.size(), 33);
    }

    private static List<String> publicLines(String code) {
        List<String> lines = new ArrayList<>();
        Matcher line = Pattern.compile("\\bpublic\\b[^;{]*").matcher(code);
        while (line.find()) {
            lines.add(line.group().replaceAll("\\s+", " ").strip());
        }
        return lines;
    }

    private static String face(String call, String... exceptions) {
        return "public " + call + " throws " + Arrays.toString(exceptions);
    }

    private static String describe(Method method) {
        List<String> parameters = new ArrayList<>();
        for (Class<?> type : method.getParameterTypes()) {
            parameters.add(type.getSimpleName());
        }
        List<String> exceptions = new ArrayList<>();
        for (Class<?> type : method.getExceptionTypes()) {
            exceptions.add(type.getSimpleName());
        }
        return Modifier.toString(method.getModifiers()) + " "
                + method.getReturnType().getSimpleName() + " " + method.getName() + "("
                + String.join(",", parameters) + ") throws " + exceptions;
    }

    private static void compare(Set<String> got, List<String> due) {
        for (String member : due) {
            if (!got.contains(member)) {
                CHECK.report("missing: " + member);
            }
        }
        for (String member : got) {
            if (!due.contains(member)) {
                CHECK.report("not in the document: " + member);
            }
        }
    }
}
