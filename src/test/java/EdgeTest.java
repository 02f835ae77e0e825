import java.lang.reflect.InvocationTargetException;
import java.lang.reflect.Method;
import java.util.Map;
import java.util.TreeMap;

/**
 * One test for each sentence of the document that names a boundary case. A test is a method whose name begins with p
 * and its promise's number in two figures; the sentence that it holds to stands above it.
 */
public final class EdgeTest {
    private static final int PROMISES = 49;
    private static final Class<?>[] PARTS = {RowEdges.class, TextEdges.class, PeopleEdges.class, DayEdges.class,
        PageEdges.class, ReaderEdges.class, EditorEdges.class, BetEdges.class, ToldEdges.class};

    public static void main(String[] args) throws IllegalAccessException {
        int[] tests = new int[PROMISES + 1];
        for (Class<?> part : PARTS) {
            for (Map.Entry<String, Method> test : testsOf(part).entrySet()) {
                int promise = Integer.parseInt(test.getKey().substring(1, 3));
                Run.check.part("promise " + promise + ", " + part.getSimpleName() + "." + test.getKey());
                run(test.getValue());
                tests[promise]++;
            }
        }
        Run.check.part("EdgeTest");
        int all = 0;
        for (int promise = 1; promise <= PROMISES; promise++) {
            Run.check.due("promise " + promise + " has a test", tests[promise] > 0 ? 1 : 0, 1);
            all += tests[promise];
        }
        System.out.println(all + " tests");
        Run.check.end();
    }

    private static Map<String, Method> testsOf(Class<?> part) {
        Map<String, Method> tests = new TreeMap<>();
        for (Method method : part.getDeclaredMethods()) {
            if (method.getName().matches("p\\d\\d\\w+") && method.getParameterCount() == 0) {
                tests.put(method.getName(), method);
            }
        }
        return tests;
    }

    private static void run(Method test) throws IllegalAccessException {
        try {
            test.invoke(null);
        } catch (InvocationTargetException e) {
            Run.check.due("it threw " + e.getCause() + " by " + e.getCause().getCause(), 1, 0);
        }
    }
}
