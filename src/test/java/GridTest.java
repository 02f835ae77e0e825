import java.lang.reflect.Method;
import java.lang.reflect.Modifier;

/**
 * Every call with every combination of numbers at the edges, in TOWNS of nobody, one and six: the program answers
 * as the Model does, never SPENT, and never throws.
 */
public final class GridTest {
    private static final int MIN = Integer.MIN_VALUE, MAX = Integer.MAX_VALUE;
    private static final int[] WIDE = {MIN, -1, 0, 1, 2, 3, 5, 6, 7, 39, 40, 41, 63, 64, 79, 80, 81, 133, 255, 256,
        MAX - 1, MAX};
    private static final int[] NARROW = {MIN, -1, 0, 1, 2, 3, 5, 6, 40, 41, 255, 256, MAX};
    private static final String[] TOWNS = {"", "d10000001 o0010", "d10000001 o0010 r1105 s2213 g3304 l4402 f5506"};
    private static final String[] TOLD = {"asked", "upper", "lower", "finding"};

    private final String name;
    private final String town;
    private final int[] numbers;
    private Pair pair = new Pair();
    private int calls = 0;
    private int wrong = 0;

    private GridTest(Method method, String town) {
        name = method.getName();
        this.town = town;
        numbers = new int[method.getParameterCount()];
    }

    public static void main(String[] args) {
        int calls = 0;
        int wrong = 0;
        for (String town : TOWNS) {
            for (Method method : TomorrowPage.class.getDeclaredMethods()) {
                if (Modifier.isPublic(method.getModifiers()) && method.getParameterCount() > 0) {
                    GridTest grid = new GridTest(method, town);
                    grid.begin();
                    grid.fill(0);
                    grid.end();
                    calls += grid.calls;
                    wrong += grid.wrong;
                }
            }
        }
        System.out.println(calls + " calls, " + wrong + " objects with answers not as due");
        if (wrong != 0 || calls == 0) {
            System.exit(1);
        }
    }

    private void fill(int from) {
        if (from == numbers.length) {
            call();
            return;
        }
        for (int v : numbers.length > 3 ? NARROW : WIDE) {
            numbers[from] = v;
            fill(from + 1);
        }
    }

    /** ROWS of 40, 3 and none, the TOWN's TEXT of 80, one DAY, a kept TOWN. */
    private void begin() {
        pair = new Pair();
        pair.call("row", 0, 40);
        pair.call("row", 1, 3);
        pair.call("row", 5, 0);
        pair.call("lay", 0, 39, 77);
        pair.write(3, town + " ".repeat(80 - town.length()));
        pair.call("town", 3);
        pair.call("print", 133, 0);
        pair.call("keep", 1);
    }

    private void call() {
        if (pair.calls() + 1 + TOLD.length >= Pair.MOST_CALLS) {
            end();
            begin();
        }
        calls++;
        pair.call(name, numbers);
        if (pair.latest() == TomorrowPage.SPENT) {
            System.out.println(name + " answered SPENT in '" + town + "'");
            wrong++;
        }
        for (String told : TOLD) {
            pair.call(told);
        }
    }

    private void end() {
        pair.call("digest");
        if (!pair.unlike().isEmpty()) {
            wrong++;
            if (wrong <= 5) {
                System.out.println("in '" + town + "' " + pair.unlike());
            }
        }
    }
}
