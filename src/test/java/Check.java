import java.lang.reflect.InvocationTargetException;
import java.lang.reflect.Method;
import java.lang.reflect.Modifier;
import java.util.Arrays;
import java.util.Comparator;

/** What the tests have in common: comparing answers, and running all tests of a class. */
final class Check {
    interface Call {
        Object run();
    }

    private static int wrong = 0;

    private Check() {
    }

    static void same(Object got, Object want) {
        if (!want.equals(got)) {
            fault("answered " + got + ", due is " + want);
        }
    }

    static void fault(String text) {
        wrong++;
        StackTraceElement[] trace = new Throwable().getStackTrace();
        String where = "";
        for (StackTraceElement e : trace) {
            if (!e.getClassName().equals("Check")) {
                where = e.getFileName() + ":" + e.getLineNumber();
                break;
            }
        }
        System.out.println(where + ": " + text);
    }

    static void isThrown(Class<? extends RuntimeException> due, Call call) {
        String got;
        try {
            got = "nothing, but answers " + call.run();
        } catch (RuntimeException e) {
            if (e.getClass() == due) {
                return;
            }
            got = e.getClass().getName();
        }
        fault("throws " + got + ", due is " + due.getName());
    }

    /** Like isThrown, and nothing of the object may be another one behind it. */
    static void isRefused(Walkwatch x, Class<? extends RuntimeException> due, Call call) {
        long before = x.checksum();
        isThrown(due, call);
        if (x.checksum() != before) {
            fault("a refused call changed something");
        }
    }

    /** Runs each static method without parameters that has this beginning of its name; ends with 1 if one fails. */
    static void runAll(Class<?> tests, String prefix) {
        int passed = 0;
        int failed = 0;
        Method[] methods = tests.getDeclaredMethods();
        Arrays.sort(methods, Comparator.comparing(Method::getName));
        for (Method m : methods) {
            if (!m.getName().startsWith(prefix) || !Modifier.isStatic(m.getModifiers())) {
                continue;
            }
            int before = wrong;
            try {
                m.invoke(null);
            } catch (InvocationTargetException e) {
                wrong++;
                e.getCause().printStackTrace(System.out);
            } catch (IllegalAccessException e) {
                wrong++;
                e.printStackTrace(System.out);
            }
            if (wrong == before) {
                passed++;
            } else {
                failed++;
                System.out.println("failed: " + m.getName());
            }
        }
        System.out.println(tests.getName() + ": " + passed + " passed, " + failed + " failed");
        if (failed != 0 || passed == 0) {
            System.exit(1);
        }
    }
}
