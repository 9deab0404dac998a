import java.util.function.Supplier;

/** Compares answers with those that are due, and ends the program with 1 if one was wrong. */
final class Check {
    // A broken program may answer a million calls wrongly; the first ones tell enough.
    private static final int MOST_TOLD = 100;

    private static int checks = 0;
    private static int wrong = 0;

    private Check() {
    }

    /** An answer as text; an exception thrown by the call is the answer throws.ITSNAME. */
    static String answer(Supplier<Object> call) {
        try {
            return String.valueOf(call.get());
        } catch (RuntimeException e) {
            return "throws." + e.getClass().getSimpleName();
        }
    }

    static void due(String what, Object got, Object due) {
        checks++;
        if (!String.valueOf(got).equals(String.valueOf(due))) {
            wrong++;
            if (wrong <= MOST_TOLD) {
                System.out.println(what + " answered " + got + ", due is " + due);
            }
        }
    }

    static void index(String what, Supplier<Object> call) {
        due(what, answer(call), "throws.IndexOutOfBoundsException");
    }

    static void argument(String what, Supplier<Object> call) {
        due(what, answer(call), "throws.IllegalArgumentException");
    }

    static void state(String what, Supplier<Object> call) {
        due(what, answer(call), "throws.IllegalStateException");
    }

    static void end() {
        System.out.println(checks + " checks, " + wrong + " wrong");
        if (wrong != 0 || checks == 0) {
            System.exit(1);
        }
    }
}
