import java.lang.reflect.InvocationTargetException;
import java.lang.reflect.Method;
import java.util.Map;
import java.util.TreeMap;

/** Runs the tests of a class: its methods named promiseNN_call_case, by the numbers of their promises. */
final class Promises {
    private Promises() {
    }

    static void test(Class<?> tests, int first, int last) {
        Map<String, Method> found = new TreeMap<>();
        for (Method m : tests.getDeclaredMethods()) {
            if (m.getName().startsWith("promise")) {
                found.put(m.getName(), m);
            }
        }
        for (Map.Entry<String, Method> one : found.entrySet()) {
            Check.begin(one.getKey());
            call(one.getValue());
            Run.closeAll();
        }
        Check.begin(tests.getName());
        for (int number = first; number <= last; number++) {
            String prefix = String.format("promise%02d_", number);
            boolean tested = found.keySet().stream().anyMatch(name -> name.startsWith(prefix));
            Check.same("has tests of promise " + number, true, tested);
        }
        Check.close(tests.getName() + ": " + found.size() + " tests");
    }

    private static void call(Method test) {
        try {
            test.invoke(null);
        } catch (InvocationTargetException e) {
            Check.same("the test", "through", e.getCause());
        } catch (IllegalAccessException e) {
            Check.same("the test", "to be called", e);
        }
    }
}
