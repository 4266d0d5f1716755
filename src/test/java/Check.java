import java.lang.reflect.InvocationTargetException;
import java.lang.reflect.Method;
import java.lang.reflect.Modifier;
import java.util.Arrays;
import java.util.Comparator;
import java.util.Set;

/** What the tests have in common: comparing answers, and running all tests of a class. */
final class Check {
    interface Call {
        Object run();
    }

    private static final Set<String> HELPERS = Set.of("Check", "Twin", "Look", "TestBase");

    private static final int MOST_TOLD = 5;

    private static int wrong = 0;
    private static int wrongBefore = 0;

    private Check() {
    }

    static void same(Object got, Object want) {
        if (!want.equals(got)) {
            fault("answered " + got + ", due is " + want);
        }
    }

    static void fault(String text) {
        wrong++;
        if (wrong - wrongBefore > MOST_TOLD) {
            return;
        }
        StackTraceElement[] trace = new Throwable().getStackTrace();
        String where = "";
        for (StackTraceElement e : trace) {
            if (!HELPERS.contains(e.getClassName())) {
                where = e.getFileName() + ":" + e.getLineNumber();
                break;
            }
        }
        System.out.println(where + ": " + text);
    }

    static void isThrown(Class<? extends RuntimeException> due, Call call) {
        String got;
        try {
            got = "nothing, but answers " + call.run();
        } catch (RuntimeException e) {
            if (e.getClass() == due) {
                return;
            }
            got = e.getClass().getName();
        }
        fault("throws " + got + ", due is " + due.getName());
    }

    /** Like isThrown, and nothing that can be asked of the object may be another one behind it. */
    static void isRefused(Walkwatch x, Class<? extends RuntimeException> due, Call call) {
        String before = Look.at(x);
        isThrown(due, call);
        same(Look.at(x), before);
    }

    /** Runs each static method without parameters that has this beginning of its name; ends with 1 if one fails. */
    static void runAll(Class<?> tests, String prefix) {
        int passed = 0;
        int failed = 0;
        Method[] methods = tests.getDeclaredMethods();
        Arrays.sort(methods, Comparator.comparing(Method::getName));
        for (Method m : methods) {
            if (!m.getName().startsWith(prefix) || !Modifier.isStatic(m.getModifiers())) {
                continue;
            }
            wrongBefore = wrong;
            try {
                m.invoke(null);
            } catch (InvocationTargetException e) {
                wrong++;
                e.getCause().printStackTrace(System.out);
            } catch (IllegalAccessException e) {
                wrong++;
                e.printStackTrace(System.out);
            }
            if (wrong == wrongBefore) {
                passed++;
            } else {
                failed++;
                System.out.println("failed: " + m.getName());
            }
        }
        System.out.println(tests.getName() + ": " + passed + " passed, " + failed + " failed");
        if (failed != 0 || passed == 0) {
            System.exit(1);
        }
    }
}
