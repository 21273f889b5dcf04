import java.util.Set;
import java.util.TreeSet;
import java.util.function.Consumer;
import java.util.function.ObjIntConsumer;
import java.util.function.Supplier;

/** Counts and prints the answers that are not the ones that are due. */
final class Check {
    /** Every sentence that a test which ran was for, behind the number of its promise. */
    static final Set<String> SENTENCES = new TreeSet<>();

    /** The number under which SENTENCES keeps those of the section "Terms" and of its beginning. */
    static final int TERMS = 0;

    private String about = "";
    private int wrong;

    /** Names the sentences of a promise that the answers from here on are held to. */
    void promise(int number, String... sentences) {
        about = "promise " + number + ", " + String.join(" ", sentences) + "\n    ";
        for (String sentence : sentences) {
            SENTENCES.add(number + " " + sentence);
        }
    }

    /** Names sentences from outside the promises, for the same answers as the promise before. */
    void terms(String... sentences) {
        about += "terms, " + String.join(" ", sentences) + "\n    ";
        for (String sentence : sentences) {
            SENTENCES.add(TERMS + " " + sentence);
        }
    }

    /** Names sentences from ahead of the promises, for the answers from here on. */
    void aheadOfPromises(String... sentences) {
        about = "";
        terms(sentences);
    }

    void same(String call, long got, long due) {
        if (got != due) {
            report(call + " answered " + got + ", due is " + due);
        }
    }

    void same(String call, boolean got, boolean due) {
        if (got != due) {
            report(call + " answered " + got + ", due is " + due);
        }
    }

    /** The exception must be of the very class, so that none of the machine's own passes for it. */
    void fails(String call, Class<? extends RuntimeException> due, Runnable action) {
        Class<?> got = null;
        try {
            action.run();
        } catch (RuntimeException thrown) {
            got = thrown.getClass();
        }
        if (got != due) {
            report(call + " threw " + (got == null ? "nothing" : got.getName())
                    + ", due is " + due.getName());
        }
    }

    void outOfBounds(String call, Runnable action) {
        fails(call, IndexOutOfBoundsException.class, action);
    }

    void badArgument(String call, Runnable action) {
        fails(call, IllegalArgumentException.class, action);
    }

    void badState(String call, Runnable action) {
        fails(call, IllegalStateException.class, action);
    }

    /** On a ledger that start makes, the call throws the exception and changes nothing. */
    void refuses(String call, Class<? extends RuntimeException> due,
            Supplier<Privacyledger> start, Consumer<Privacyledger> refused) {
        fails(call, due, () -> refused.accept(start.get()));
        changesNothing(call, start, refused);
    }

    void refusesBounds(String call, Supplier<Privacyledger> start,
            Consumer<Privacyledger> refused) {
        refuses(call, IndexOutOfBoundsException.class, start, refused);
    }

    void refusesArgument(String call, Supplier<Privacyledger> start,
            Consumer<Privacyledger> refused) {
        refuses(call, IllegalArgumentException.class, start, refused);
    }

    void refusesState(String call, Supplier<Privacyledger> start, Consumer<Privacyledger> refused) {
        refuses(call, IllegalStateException.class, start, refused);
    }

    /** The call refuses the numbers beside 0 to count - 1, and those that a shift would wrap. */
    void refusesBeside(int count, String call, Supplier<Privacyledger> start,
            ObjIntConsumer<Privacyledger> refused) {
        int[] numbers = {Integer.MIN_VALUE, -32, -1, count, count + 1, 32, 64, Integer.MAX_VALUE};
        for (int number : numbers) {
            refusesBounds(call + ", number " + number, start, x -> refused.accept(x, number));
        }
    }

    /** What all calls tell after this one is what they tell without it. */
    void changesNothing(String call, Supplier<Privacyledger> start,
            Consumer<Privacyledger> asked) {
        String difference = Everything.difference(start, asked);
        if (difference != null) {
            report(call + " changed something: " + difference);
        }
    }

    /** Two ledgers answer all calls alike. */
    void alike(String call, Supplier<Privacyledger> one, Supplier<Privacyledger> other) {
        String difference = Everything.difference(one, other);
        if (difference != null) {
            report(call + " are not alike: " + difference);
        }
    }

    void report(String text) {
        wrong++;
        System.out.println(about + text);
    }

    void end() {
        if (wrong != 0) {
            System.out.println(wrong + " answers are not as due");
            System.exit(1);
        }
    }
}
