import java.lang.reflect.InvocationTargetException;
import java.lang.reflect.Method;
import java.util.Arrays;
import java.util.Map;
import java.util.TreeMap;

/** Long runs of calls on the program and on the model; every answer must be the same. */
final class ModelTest {
    private static final int RUNS = 1500;
    private static final int CALLS = 512;

    /** How often each call is made, and what its parameters are, a letter each. */
    private static final String[] CALLS_AND_WEIGHTS = {
        "addPurpose tb 3", "setRetention pt 3", "consent spb 14", "consents s 1",
        "daysWithConsent sp 3", "add sP 8", "derive rP 9", "addSource rr 9", "records - 1",
        "stateOf r 4", "subjectsOf r 4", "below r 4", "endOf r 4", "whyNoUse rp 6", "use rp 8",
        "uses sp 4", "passDays d 3", "day - 1", "nextEnd - 2", "hold hr 5", "close h 3", "held - 2",
        "request s 1", "whyKept r 6", "erase - 3", "eraseAll - 1", "traces s 3",
        "tracesFromRoots s 3", "due - 3"};

    private static final int[] EXTREMES = {
        Integer.MIN_VALUE, Integer.MIN_VALUE + 1, -33, -32, -1, 8, 12, 30, 31, 32, 64, 256, 1001,
        3651, 1 << 30, Integer.MAX_VALUE};

    private static final Check CHECK = new Check();
    private static final Map<String, Method> METHODS = new TreeMap<>();

    /** Runs must be the same each time, so the numbers come from a fixed sequence. */
    private static long sequence = 20261119;
    /** How long this run's days, retentions and passings are at most. */
    private static int longest;
    /** Of how many subjects this run is, so that some runs are of few. */
    private static int subjects;

    public static void main(String[] args) throws IllegalAccessException {
        for (Method method : Privacyledger.class.getMethods()) {
            METHODS.put(method.getName(), method);
        }
        boolean isRight = true;
        for (int run = 0; run < RUNS && isRight; run++) {
            isRight = compareOneRun(run);
        }
        CHECK.end();
    }

    /** Ends a run at its first wrong answer; what comes after it tells nothing new. */
    private static boolean compareOneRun(int run) throws IllegalAccessException {
        longest = new int[] {4, 30, 3650}[run % 3];
        subjects = new int[] {2, 5, 12}[run / 3 % 3];
        Privacyledger program = new Privacyledger();
        Model model = new Model();
        for (int call = 0; call < CALLS; call++) {
            String[] chosen = choose();
            int[] arguments = arguments(chosen[1]);
            String due = answerOfModel(model, chosen[0], arguments);
            String got = answerOfProgram(program, chosen[0], arguments);
            if (!got.equals(due)) {
                CHECK.report("run " + run + ", call " + call + ": " + chosen[0]
                        + Arrays.toString(arguments) + " answered " + got + ", due is " + due);
                return false;
            }
        }
        return true;
    }

    private static String[] choose() {
        int sum = 0;
        for (String entry : CALLS_AND_WEIGHTS) {
            sum += Integer.parseInt(entry.split(" ")[2]);
        }
        int left = below(sum);
        for (String entry : CALLS_AND_WEIGHTS) {
            String[] parts = entry.split(" ");
            left -= Integer.parseInt(parts[2]);
            if (left < 0) {
                return parts;
            }
        }
        throw new AssertionError();
    }

    private static int[] arguments(String kinds) {
        int count = kinds.equals("-") ? 0 : kinds.length();
        int[] arguments = new int[count];
        for (int i = 0; i < count; i++) {
            char kind = kinds.charAt(i);
            boolean isWild = kind != 'b' && below(60) == 0;
            arguments[i] = isWild ? EXTREMES[below(EXTREMES.length)] : ordinary(kind);
        }
        return arguments;
    }

    private static int ordinary(char kind) {
        switch (kind) {
            case 'b': return below(3) == 0 ? 0 : 1;
            case 'd': return 1 + below(Math.min(1000, Math.max(2, longest / 3)));
            case 'h': return below(6);
            case 'p': return below(below(4) == 0 ? 9 : 3);
            case 'P': return below(below(4) == 0 ? 256 : 8);
            case 'r': return below(below(3) == 0 ? 31 : 12);
            case 's': return below(subjects);
            case 't': return below(longest + 1);
            default: throw new AssertionError(kind);
        }
    }

    private static int below(int bound) {
        sequence = sequence * 6364136223846793005L + 1442695040888963407L;
        return (int) Math.floorMod(sequence >>> 33, (long) bound);
    }

    private static String answerOfModel(Model model, String name, int[] arguments) {
        try {
            return String.valueOf(model.answer(name, arguments));
        } catch (IndexOutOfBoundsException | IllegalArgumentException
                | IllegalStateException thrown) {
            return thrown.getClass().getName();
        }
    }

    private static String answerOfProgram(Privacyledger program, String name, int[] arguments)
            throws IllegalAccessException {
        Method method = METHODS.get(name);
        Object[] given = new Object[arguments.length];
        for (int i = 0; i < given.length; i++) {
            boolean isBoolean = method.getParameterTypes()[i] == boolean.class;
            given[i] = isBoolean ? (Object) (arguments[i] != 0) : (Object) arguments[i];
        }
        try {
            Object answer = method.invoke(program, given);
            return answer instanceof Boolean ? ((Boolean) answer ? "1" : "0") : answer.toString();
        } catch (InvocationTargetException thrown) {
            return thrown.getCause().getClass().getName();
        }
    }
}
