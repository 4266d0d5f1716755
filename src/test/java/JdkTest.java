import java.lang.reflect.InvocationTargetException;
import java.lang.reflect.Method;
import java.util.ArrayList;
import java.util.Arrays;
import java.util.Comparator;
import java.util.HashMap;
import java.util.List;
import java.util.Map;
import java.util.Random;

/** Runs of 512 chosen calls (always the same ones), each answer compared with that of the JDK's collections. */
final class JdkTest {
    private static final int RUNS = 1000;
    private static final int CALLS = 512;

    private static final Map<String, Method> JDK = new HashMap<>();

    private JdkTest() {
    }

    public static void main(String[] args) {
        for (Method m : JdkWalks.class.getMethods()) {
            JDK.put(m.getName(), m);
        }
        Check.runAll(JdkTest.class, "jdk");
    }

    static void jdkAnswersTheSameOnManyThings() {
        compare(1, 9, 100);
    }

    static void jdkAnswersTheSameOnFewThings() {
        compare(2, 9, 8);
    }

    static void jdkAnswersTheSameOnTheLists() {
        compare(3, 2, 10);
    }

    static void jdkAnswersTheSameOnTheLinkedMapsAlone() {
        compare(4, 4, 6);
    }

    private static List<Method> calls() {
        List<Method> calls = new ArrayList<>();
        for (Method m : Walkwatch.class.getDeclaredMethods()) {
            if (java.lang.reflect.Modifier.isPublic(m.getModifiers())) {
                calls.add(m);
            }
        }
        calls.sort(Comparator.comparing(Method::getName));
        List<Method> weighted = new ArrayList<>();
        for (Method m : calls) {
            int weight = switch (m.getName()) {
                case "step" -> 12;
                case "add", "put", "begin", "take", "back", "lay", "insert", "change", "stepChange" -> 5;
                case "beginAt", "beginSpan", "isAtEnd", "place", "ask", "set" -> 3;
                default -> 1;
            };
            for (int i = 0; i < weight; i++) {
                weighted.add(m);
            }
        }
        return weighted;
    }

    private static void compare(int seed, int collections, int things) {
        List<Method> calls = calls();
        for (int run = 0; run < RUNS; run++) {
            Random random = new Random(1000003L * seed + run);
            Walkwatch x = new Walkwatch();
            JdkWalks jdk = new JdkWalks();
            StringBuilder told = new StringBuilder();
            for (int i = 0; i < CALLS; i++) {
                Method call = calls.get(random.nextInt(calls.size()));
                // Emptying calls are rarer in every other run, so that collections get full, too.
                if (run % 2 == 0 && random.nextInt(4) != 0
                        && List.of("clear", "sweep", "cut", "drop", "poll", "takeAt", "take").contains(call.getName())) {
                    continue;
                }
                Object[] args = arguments(random, call, collections, things);
                String got = answer(call, x, args);
                String want = answer(JDK.get(call.getName()), jdk, args);
                told.append(call.getName()).append(Arrays.toString(args)).append(" ").append(got).append("\n");
                if (!got.equals(want) || x.checksum() != jdk.checksum()) {
                    Check.fault("run " + run + " of " + seed + ", due is " + want + " at the last one of:\n" + told);
                    return;
                }
            }
        }
    }

    private static Object[] arguments(Random random, Method call, int collections, int things) {
        Class<?>[] types = call.getParameterTypes();
        Object[] args = new Object[types.length];
        boolean isOfWalk = List.of("begin", "beginAt", "beginSpan", "step", "stepChange", "back", "take", "lay",
                "change", "place", "isAtEnd", "answered", "end", "kindOf").contains(call.getName());
        for (int i = 0; i < types.length; i++) {
            if (types[i] == boolean.class) {
                args[i] = random.nextBoolean();
            } else if (types[i] == char.class) {
                args[i] = "kkkvvveeeddlllls-x".charAt(random.nextInt(18));
            } else if (i == 0 && isOfWalk) {
                args[i] = oddly(random, random.nextInt(random.nextInt(8) == 0 ? 8 : 3));
            } else if (i == 0 || List.of("begin", "beginAt", "addAll").contains(call.getName())) {
                args[i] = oddly(random, random.nextInt(random.nextInt(8) == 0 ? 9 : collections));
            } else if (call.getName().equals("sweep")) {
                args[i] = oddly(random, random.nextInt(11));
            } else {
                args[i] = oddly(random, random.nextInt(things));
            }
        }
        return args;
    }

    private static int oddly(Random random, int ordinary) {
        int[] odd = {-1, 8, 9, 40, 41, 99, 100, Integer.MAX_VALUE, Integer.MIN_VALUE};
        return random.nextInt(60) == 0 ? odd[random.nextInt(odd.length)] : ordinary;
    }

    private static String answer(Method call, Object target, Object[] args) {
        try {
            return String.valueOf(call.invoke(target, args));
        } catch (InvocationTargetException e) {
            return "throws." + e.getCause().getClass().getName();
        } catch (IllegalAccessException e) {
            return "not to be called";
        }
    }
}
