import java.lang.reflect.InvocationTargetException;
import java.lang.reflect.Method;
import java.util.Arrays;
import java.util.Comparator;
import java.util.function.Supplier;

/** Compares answers with those that are due, and ends the program with 1 if one was wrong. */
final class Check {
    static final String INDEX = "throws.IndexOutOfBoundsException";
    static final String ARGUMENT = "throws.IllegalArgumentException";
    static final String STATE = "throws.IllegalStateException";

    // A broken program may answer a million calls wrongly; the first ones tell enough.
    private static final int MOST_TOLD = 100;

    private static int checks = 0;
    private static int wrong = 0;
    private static String test = "";

    private Check() {
    }

    /** Runs every test of a class that is marked with what it is about, and ends. */
    static void run(Class<?> tests) {
        Method[] methods = tests.getDeclaredMethods();
        Arrays.sort(methods, Comparator.comparing(Method::getName));
        int ran = 0;
        for (Method method : methods) {
            if (method.isAnnotationPresent(About.class)) {
                runOne(method);
                ran++;
            }
        }
        System.out.println(ran + " tests");
        end();
    }

    private static void runOne(Method method) {
        About about = method.getAnnotation(About.class);
        test = method.getName() + " (" + about.promise() + ": " + about.words() + "): ";
        int before = checks;
        try {
            method.setAccessible(true);
            method.invoke(null);
        } catch (InvocationTargetException e) {
            due("a call inside the test", "throws." + e.getCause(), "no exception");
        } catch (IllegalAccessException e) {
            due("the test", "cannot be run", "run");
        }
        if (checks == before) {
            due("the test", "checks nothing", "checks");
        }
        test = "";
    }

    /** An answer as text; an exception thrown by the call is the answer throws.ITSNAME. */
    static String answer(Supplier<Object> call) {
        try {
            return String.valueOf(call.get());
        } catch (RuntimeException e) {
            return "throws." + e.getClass().getSimpleName();
        }
    }

    static void due(String what, Object got, Object due) {
        checks++;
        if (!String.valueOf(got).equals(String.valueOf(due))) {
            wrong++;
            if (wrong <= MOST_TOLD) {
                System.out.println(test + what + " answered " + got + ", due is " + due);
            }
        }
    }

    static void index(String what, Supplier<Object> call) {
        due(what, answer(call), INDEX);
    }

    static void argument(String what, Supplier<Object> call) {
        due(what, answer(call), ARGUMENT);
    }

    static void state(String what, Supplier<Object> call) {
        due(what, answer(call), STATE);
    }

    static void end() {
        System.out.println(checks + " checks, " + wrong + " wrong");
        if (wrong != 0 || checks == 0) {
            System.exit(1);
        }
    }
}
