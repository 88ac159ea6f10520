import java.lang.reflect.InvocationTargetException;
import java.lang.reflect.Method;
import java.util.Map;
import java.util.TreeMap;
import java.util.regex.Pattern;

/**
 * Runs the cases of a class: its static methods that are named after what they hold, as
 * promise10_sweepOfMoreThanThereAre, block2_snowNineAtMost or terms_sizeBelowNull. None can be
 * left out by mistake, and each row that fails is printed with the name of its case.
 */
final class Cases {
    private static final Pattern NAME = Pattern.compile("(promise\\d\\d|block\\d|terms)_[a-z]\\w*");

    private static String current = "";
    private static int passed = 0;
    private static int failed = 0;

    private Cases() {
    }

    /** Runs all cases; ends with exit code 1 if a row failed, or if a promise has no case. */
    static void run(Class<?> of, int firstPromise, int lastPromise) {
        Map<String, Method> cases = casesOf(of);
        for (Map.Entry<String, Method> each : cases.entrySet()) {
            current = each.getKey();
            int before = passed + failed;
            goThrough(each.getValue());
            is("it has rows", passed + failed > before ? 1 : 0, 1);
        }
        current = of.getName();
        for (int promise = firstPromise; promise <= lastPromise; promise++) {
            String start = String.format("promise%02d_", promise);
            boolean has = cases.keySet().stream().anyMatch(name -> name.startsWith(start));
            is("cases of promise " + promise, has ? 1 : 0, 1);
        }
        System.out.println(of.getName() + ": " + cases.size() + " cases, " + passed + " passed, " + failed + " failed");
        if (failed != 0) {
            System.exit(1);
        }
    }

    private static Map<String, Method> casesOf(Class<?> of) {
        Map<String, Method> cases = new TreeMap<>();
        for (Method m : of.getDeclaredMethods()) {
            if (NAME.matcher(m.getName()).matches() && m.getParameterCount() == 0) {
                m.setAccessible(true);
                cases.put(m.getName(), m);
            }
        }
        return cases;
    }

    private static void goThrough(Method one) {
        try {
            one.invoke(null);
        } catch (InvocationTargetException thrown) {
            failed++;
            System.out.println(current + ": " + thrown.getCause());
        } catch (IllegalAccessException wrong) {
            throw new IllegalStateException(wrong);
        }
    }

    static void is(String what, long got, long want) {
        if (got == want) {
            passed++;
            return;
        }
        failed++;
        System.out.println(current + ": " + what + " answered " + got + ", due is " + want);
    }

    static void same(String what, String got, String want) {
        if (got.equals(want)) {
            passed++;
            return;
        }
        failed++;
        System.out.println(current + ": " + what + ": seen is\n  " + got + ", due is\n  " + want);
    }
}
