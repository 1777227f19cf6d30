/** Counts and prints what is not as due; ends with exit code 1 if there was any. */
final class Check {
    interface Call {
        Object answer();
    }

    private static int wrong = 0;

    private Check() {
    }

    static void due(String call, Object got, Object due) {
        if (!due.equals(got)) {
            wrong++;
            System.out.println(call + " answered " + got + ", due is " + due);
        }
    }

    /** Only the very class counts, so that a subclass thrown by the machine does not pass. */
    static void dueThrow(String call, Class<? extends RuntimeException> due, Call made) {
        Object got;
        try {
            got = made.answer();
        } catch (RuntimeException thrown) {
            got = thrown.getClass();
        }
        due(call, got, due);
    }

    static void dueIndex(String call, Call made) {
        dueThrow(call, IndexOutOfBoundsException.class, made);
    }

    static void dueArgument(String call, Call made) {
        dueThrow(call, IllegalArgumentException.class, made);
    }

    static void end() {
        System.out.println(wrong == 0 ? "all answers are as due" : wrong + " answers are not as due");
        if (wrong != 0) {
            System.exit(1);
        }
    }
}
