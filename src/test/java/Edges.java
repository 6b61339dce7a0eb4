import java.lang.reflect.InvocationTargetException;
import java.lang.reflect.Method;
import java.util.Arrays;
import java.util.Comparator;

/**
 * Runs a suite of boundary cases: every method of a class whose name is p, two digits of a promise's
 * number and what it looks at. Each starts from objects of its own, and what it prints names it.
 */
final class Edges {
    private Edges() {
    }

    static void run(Class<?> suite, Check check, int firstPromise, int lastPromise)
            throws ReflectiveOperationException {
        Method[] all = suite.getDeclaredMethods();
        Arrays.sort(all, Comparator.comparing(Method::getName));
        int[] tests = new int[100];
        for (Method m : all) {
            if (m.getName().matches("p[0-9][0-9][A-Z].*")) {
                int promise = Integer.parseInt(m.getName().substring(1, 3));
                runOne(m, promise, check);
                tests[promise]++;
            }
        }
        tell(check, tests, firstPromise, lastPromise);
        check.end();
    }

    private static void runOne(Method m, int promise, Check check) throws ReflectiveOperationException {
        check.about("promise " + promise + ", " + m.getName());
        int before = check.done();
        try {
            m.invoke(null);
        } catch (InvocationTargetException e) {
            check.fail("it threw " + e.getCause());
        }
        if (check.done() == before) {
            check.fail("it looked at nothing");
        }
    }

    private static void tell(Check check, int[] tests, int firstPromise, int lastPromise) {
        StringBuilder out = new StringBuilder("tests by promise:");
        for (int p = firstPromise; p <= lastPromise; p++) {
            out.append(' ').append(p).append(": ").append(tests[p]).append(p < lastPromise ? "," : "");
            if (tests[p] == 0) {
                check.about("promise " + p);
                check.fail("no test");
            }
        }
        System.out.println(out);
    }
}
