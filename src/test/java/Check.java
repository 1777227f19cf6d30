/** Counts and prints what is not as due; ends with exit code 1 if there was any. */
final class Check {
    interface Call {
        Object answer();
    }

    /** What house() of 3 weighs in digest(): that of 4 and isSound() stand behind it. */
    private static final long WEIGHT_OF_NOTHING = 31 * 31;

    private static int wrong = 0;

    private Check() {
    }

    static void due(String call, Object got, Object due) {
        if (!due.equals(got)) {
            wrong++;
            System.out.println(call + " answered " + got + ", due is " + due);
        }
    }

    /** Only the very class counts, so that a subclass thrown by the machine does not pass; all stays as it was. */
    private static void dueThrow(Factorweights on, String call, Class<? extends RuntimeException> due, Call made) {
        long before = on.digest();
        Object got;
        try {
            got = made.answer();
        } catch (RuntimeException thrown) {
            got = thrown.getClass();
        }
        due(call, got, due);
        due(call + " leaves", on.digest(), before);
    }

    static void dueIndex(Factorweights on, String call, Call made) {
        dueThrow(on, call, IndexOutOfBoundsException.class, made);
    }

    static void dueArgument(Factorweights on, String call, Call made) {
        dueThrow(on, call, IllegalArgumentException.class, made);
    }

    /** What cannot be done or told: -9 (or "-9"), counted once, and all else stays as it was. */
    static void dueNothing(Factorweights on, String call, Call made) {
        long before = on.digest();
        due(call, String.valueOf(made.answer()), "-9");
        due(call + " counts, and leaves the rest", on.digest(), before + WEIGHT_OF_NOTHING);
    }

    /** A telling that counts nothing and changes nothing, also where the answer is -9. */
    static void dueTold(Factorweights on, String call, Call made, Object due) {
        long before = on.digest();
        due(call, made.answer(), due);
        due(call + " leaves", on.digest(), before);
    }

    static void end() {
        System.out.println(wrong == 0 ? "all answers are as due" : wrong + " answers are not as due");
        if (wrong != 0) {
            System.exit(1);
        }
    }
}
