/** Counts and prints the answers that are not the ones that are due. */
final class Check {
    private int wrong;

    void same(String call, long got, long due) {
        if (got != due) {
            report(call + " answered " + got + ", due is " + due);
        }
    }

    void same(String call, boolean got, boolean due) {
        if (got != due) {
            report(call + " answered " + got + ", due is " + due);
        }
    }

    /** The exception must be of the very class, so that none of the machine's own passes for it. */
    void fails(String call, Class<? extends RuntimeException> due, Runnable action) {
        Class<?> got = null;
        try {
            action.run();
        } catch (RuntimeException thrown) {
            got = thrown.getClass();
        }
        if (got != due) {
            report(call + " threw " + (got == null ? "nothing" : got.getName())
                    + ", due is " + due.getName());
        }
    }

    void outOfBounds(String call, Runnable action) {
        fails(call, IndexOutOfBoundsException.class, action);
    }

    void badArgument(String call, Runnable action) {
        fails(call, IllegalArgumentException.class, action);
    }

    void badState(String call, Runnable action) {
        fails(call, IllegalStateException.class, action);
    }

    void report(String text) {
        wrong++;
        System.out.println(text);
    }

    void end() {
        if (wrong != 0) {
            System.out.println(wrong + " answers are not as due");
            System.exit(1);
        }
    }
}
