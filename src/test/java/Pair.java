import java.lang.reflect.InvocationTargetException;
import java.lang.reflect.Method;
import java.util.Arrays;
import java.util.HashMap;
import java.util.Map;

/** The program and the Model side by side: each call is made on both, and what they answer must be alike. */
final class Pair {
    /** The document promises nothing of an object that has had more calls. */
    static final int MOST_CALLS = 512;
    private static final Map<String, Method> PROGRAM = new HashMap<>();
    private static final Map<String, Method> MODEL = new HashMap<>();

    static {
        try {
            for (Method method : TomorrowPage.class.getMethods()) {
                if (method.getDeclaringClass() == TomorrowPage.class) {
                    PROGRAM.put(method.getName(), method);
                    MODEL.put(method.getName(), Model.class.getDeclaredMethod(method.getName(), method.getParameterTypes()));
                }
            }
        } catch (NoSuchMethodException e) {
            throw new IllegalStateException("the Model lacks a call", e);
        }
    }

    final Model model = new Model();
    private final TomorrowPage page = new TomorrowPage();
    private int calls = 0;
    private long latest = 0;
    private String unlike = "";

    int calls() {
        return calls;
    }

    /** What the program answered last. */
    long latest() {
        return latest;
    }

    /** The first call that was not answered as due; empty: there was none. */
    String unlike() {
        return unlike;
    }

    /** Makes a call on both: whether it was answered as due. */
    boolean call(String name, int... numbers) {
        calls++;
        if (calls > MOST_CALLS) {
            throw new IllegalStateException("more than " + MOST_CALLS + " calls");
        }
        Object[] values = Arrays.stream(numbers).boxed().toArray();
        String got = answer(PROGRAM.get(name), page, values);
        String due = answer(MODEL.get(name), model, values);
        if (got.equals(due)) {
            latest = Long.parseLong(got);
            return true;
        }
        if (unlike.isEmpty()) {
            unlike = "call " + calls + ": " + name + Arrays.toString(numbers) + " answered " + got + ", due is " + due;
        }
        return false;
    }

    private static String answer(Method method, Object on, Object[] values) {
        try {
            return method.invoke(on, values).toString();
        } catch (InvocationTargetException e) {
            return on instanceof Model ? "that the Model threw " + e.getCause() : "by throwing " + e.getCause();
        } catch (IllegalAccessException e) {
            throw new IllegalStateException(e);
        }
    }

    /** Writes signs into TEXT t, a call for each that is no blank. */
    void write(int t, String signs) {
        call("text", t, signs.length());
        for (int i = 0; i < signs.length(); i++) {
            if (signs.charAt(i) != ' ') {
                call("put", t, i, signs.charAt(i));
            }
        }
    }
}
