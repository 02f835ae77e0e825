import java.lang.reflect.InvocationTargetException;
import java.lang.reflect.Method;
import java.lang.reflect.Modifier;
import java.util.Arrays;

/**
 * Every call with every combination of numbers at the edges, in TOWNS of nobody, one and six: the program answers
 * as the Model does, never SPENT, and never throws.
 */
public final class GridTest {
    private static final int MIN = Integer.MIN_VALUE, MAX = Integer.MAX_VALUE;
    private static final int[] WIDE = {MIN, -1, 0, 1, 2, 3, 5, 6, 7, 39, 40, 41, 63, 64, 79, 80, 81, 133, 255, 256,
        MAX - 1, MAX};
    private static final int[] NARROW = {MIN, -1, 0, 1, 2, 3, 5, 6, 40, 41, 255, 256, MAX};
    /** The document promises nothing of an object that has had more than 512 calls. */
    private static final int CALLS_OF_ONE = 70;
    private static final String[] TOWNS = {"", "d10000001 o0010", "d10000001 o0010 r1105 s2213 g3304 l4402 f5506"};

    private final Method method;
    private final Method due;
    private final String town;
    private final Object[] numbers;
    private TomorrowPage page;
    private Model model;
    private int calls = 0;
    private int wrong = 0;

    private GridTest(Method method, String town) throws NoSuchMethodException {
        this.method = method;
        this.town = town;
        due = Model.class.getDeclaredMethod(method.getName(), method.getParameterTypes());
        numbers = new Object[method.getParameterCount()];
    }

    public static void main(String[] args) throws ReflectiveOperationException {
        int calls = 0;
        int wrong = 0;
        for (String town : TOWNS) {
            for (Method method : TomorrowPage.class.getDeclaredMethods()) {
                if (Modifier.isPublic(method.getModifiers()) && method.getParameterCount() > 0) {
                    GridTest grid = new GridTest(method, town);
                    grid.fill(0);
                    calls += grid.calls;
                    wrong += grid.wrong;
                }
            }
        }
        System.out.println(calls + " calls, " + wrong + " answers not as due");
        if (wrong != 0 || calls == 0) {
            System.exit(1);
        }
    }

    private void fill(int from) throws ReflectiveOperationException {
        if (from == numbers.length) {
            call();
            return;
        }
        for (int v : numbers.length > 3 ? NARROW : WIDE) {
            numbers[from] = v;
            fill(from + 1);
        }
    }

    /** ROWS of 40, 3 and none, the TOWN's TEXT, one DAY, a kept TOWN. */
    private void begin() {
        page = new TomorrowPage();
        model = new Model();
        for (int[] row : new int[][] {{0, 40}, {1, 3}, {5, 0}}) {
            page.row(row[0], row[1]);
            model.row(row[0], row[1]);
        }
        page.lay(0, 39, 77);
        model.lay(0, 39, 77);
        page.text(3, 80);
        model.text(3, 80);
        for (int i = 0; i < town.length(); i++) {
            page.put(3, i, town.charAt(i));
            model.put(3, i, town.charAt(i));
        }
        page.town(3);
        model.town(3);
        page.print(133, 0);
        model.print(133, 0);
        page.keep(1);
        model.keep(1);
    }

    private void call() throws ReflectiveOperationException {
        if (calls % CALLS_OF_ONE == 0) {
            begin();
        }
        calls++;
        long want = ((Number) due.invoke(model, numbers)).longValue();
        try {
            long got = ((Number) method.invoke(page, numbers)).longValue();
            compare("", got, want);
            compare("is SPENT: ", got == TomorrowPage.SPENT ? 1 : 0, 0);
        } catch (InvocationTargetException e) {
            compare("threw " + e.getCause() + ": ", 1, 0);
        }
        compare("asked() behind ", page.asked(), model.asked);
        compare("upper() behind ", page.upper(), model.upper);
        compare("lower() behind ", page.lower(), model.lower);
        compare("finding() behind ", page.finding(), model.finding);
        if (calls % CALLS_OF_ONE == 0) {
            compare("digest() behind ", page.digest(), model.digest());
        }
    }

    private void compare(String what, long got, long want) {
        if (got != want) {
            wrong++;
            if (wrong <= 5) {
                String call = method.getName() + Arrays.toString(numbers) + " in '" + town + "'";
                System.out.println(what + call + " answered " + got + ", due is " + want);
            }
        }
    }
}
