import java.lang.reflect.InvocationTargetException;
import java.lang.reflect.Method;
import java.util.Arrays;
import java.util.Comparator;
import java.util.List;

/** Runs the tests of one promise: the methods that say of which sentence they are. */
final class Sentences {
    private Sentences() {
    }

    static List<Method> testsOf(Class<?> tests) {
        return Arrays.stream(tests.getDeclaredMethods())
                .filter(method -> method.isAnnotationPresent(Says.class))
                .sorted(Comparator.comparing(Method::getName))
                .toList();
    }

    /** The number in a name like Promise02BendTest. */
    static int promiseOf(Class<?> tests) {
        return Integer.parseInt(tests.getSimpleName().substring(7, 9));
    }

    static void run(Class<?> tests) {
        int failed = 0;
        List<Method> all = testsOf(tests);
        for (Method test : all) {
            if (!passes(test)) {
                failed++;
                System.out.println("FAILED  " + tests.getSimpleName() + "." + test.getName()
                        + ": \"" + test.getAnnotation(Says.class).value() + "\"");
            }
        }
        System.out.println(all.size() + " tests of promise " + promiseOf(tests) + ", " + failed + " failed");
        if (failed != 0 || all.isEmpty()) {
            System.exit(1);
        }
    }

    private static boolean passes(Method test) {
        Check check = new Check();
        try {
            test.setAccessible(true);
            test.invoke(null, check);
        } catch (InvocationTargetException e) {
            System.out.println("it threw " + e.getCause());
            return false;
        } catch (IllegalAccessException e) {
            throw new IllegalStateException(e);
        }
        return check.wrong() == 0 && check.seen() > 0;
    }
}
