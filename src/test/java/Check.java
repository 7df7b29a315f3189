import java.lang.reflect.InvocationTargetException;
import java.lang.reflect.Method;
import java.util.ArrayList;
import java.util.Comparator;
import java.util.List;

/** Answers against those that are due; a test class is one process, so what is counted is static. */
final class Check {
    private static final int MOST_TOLD = 40;
    private static int looked = 0;
    private static int wrong = 0;
    private static String test = "";

    private Check() {
    }

    static void due(String what, Object got, Object want) {
        looked++;
        if (!got.equals(want)) {
            wrong++;
            if (wrong <= MOST_TOLD) {
                System.out.println(test + what + " answered " + got + ", due is " + want);
            }
        }
    }

    static void holds(String what, boolean isSo) {
        due(what, isSo, true);
    }

    static boolean isFaultless() {
        return wrong == 0;
    }

    static void end() {
        test = "";
        System.out.println(wrong == 0 ? looked + " answers are as due" : wrong + " of " + looked + " are not as due");
        if (wrong != 0 || looked == 0) {
            System.exit(1);
        }
    }

    /** Runs every test of a class, each of which has to look at something, and ends. */
    static void run(Class<?> tests) throws ReflectiveOperationException {
        for (Method method : testsOf(tests)) {
            test = "promise " + method.getAnnotation(Says.class).promise() + ", " + method.getName() + ": ";
            int before = looked;
            try {
                method.invoke(null);
            } catch (InvocationTargetException thrown) {
                holds("it threw " + thrown.getCause(), false);
            }
            holds("it looked at nothing", looked > before);
        }
        end();
    }

    /** By promises, and by names within one. */
    static List<Method> testsOf(Class<?> tests) {
        List<Method> found = new ArrayList<>();
        for (Method method : tests.getDeclaredMethods()) {
            if (method.isAnnotationPresent(Says.class)) {
                method.setAccessible(true);
                found.add(method);
            }
        }
        found.sort(Comparator.comparing((Method m) -> m.getAnnotation(Says.class).promise()).thenComparing(Method::getName));
        return found;
    }
}
