import java.lang.reflect.InvocationTargetException;
import java.lang.reflect.Method;
import java.util.ArrayList;
import java.util.Arrays;
import java.util.HashMap;
import java.util.List;
import java.util.Map;

/**
 * A run of calls on one object, each told as the document writes it: "row(0, 40)", "at(1, MIN)". It remembers its
 * calls, so that the same run can be made again: what a call changes is seen by two runs, one with it, one without.
 */
final class Run {
    static final Check check = new Check();
    static final int BAD = -1, FULL = -2, FINDING = -3, STATE = -4, NONE = -9;
    static final int NOTHING = 1, BEYOND = 2, UNLIKE = 3, NOUGHT = 4, SIZE = 5;
    static final int MIN = Integer.MIN_VALUE, MAX = Integer.MAX_VALUE;

    /** Six ONES, each of whom watches and does a FACT of one's own; nothing is so, by HABIT neither. */
    static final String SIX_ONES = "d00000000o0000o1100o2200o3300o4400o5500";
    /** Six REBELS likewise. */
    static final String SIX_REBELS = "d00000000r0000r1100r2200r3300r4400r5500";

    /** The document promises nothing of an object that has had more calls. */
    private static final int MOST_CALLS = 512;
    private static final Map<String, Method> METHODS = new HashMap<>();
    /** Where each of these stands in what is seen; findings(1) to findings(5) come behind the latest one. */
    private static final int ASKED = 1, UPPER = 2, LOWER = 3, LATEST = 4;

    private static final class Call {
        final Method method;
        final Object[] numbers;

        Call(String told) {
            int open = told.indexOf('(');
            String inside = told.substring(open + 1, told.indexOf(')')).trim();
            String[] parts = inside.isEmpty() ? new String[0] : inside.split(",");
            method = METHODS.get(told.substring(0, open));
            numbers = new Object[parts.length];
            for (int i = 0; i < parts.length; i++) {
                String part = parts[i].trim();
                numbers[i] = part.equals("MIN") ? MIN : part.equals("MAX") ? MAX : Integer.parseInt(part);
            }
        }

        long on(TomorrowPage page) {
            try {
                return ((Number) method.invoke(page, numbers)).longValue();
            } catch (InvocationTargetException e) {
                throw new IllegalStateException(method.getName() + Arrays.toString(numbers) + " threw", e.getCause());
            } catch (IllegalAccessException e) {
                throw new IllegalStateException(e);
            }
        }
    }

    static {
        for (Method method : TomorrowPage.class.getMethods()) {
            METHODS.put(method.getName(), method);
        }
    }

    private final TomorrowPage page = new TomorrowPage();
    private final List<Call> calls = new ArrayList<>();

    private Run() {
    }

    /** A new object. */
    static Run fresh() {
        return new Run();
    }

    /** A new object with the TOWN that the signs tell, from TEXT 3. */
    static Run town(String signs) {
        return new Run().writes(3, signs).does("town(3)");
    }

    /**
     * An object in which there is a little of everything, so that whatever a call changes can be seen: ROWS 0 (of
     * none), 1 (of 40), 2 (of 3); TEXTS 0 (of none), 1 (of 80), 3; 6 PEOPLE, one of each KIND; 3 DAYS; TOWNS kept in
     * 0 (1 DAY) and 2 (2 DAYS, another HABIT); asked() -77; ODDS 1 by 4; each FINDING, UNLIKE the latest.
     * PAGES that AGREE: with nobody 133; with one 0 132, 133; with 3 133, 141; with 4 133, 149; with 1, 2, 5 none.
     */
    static Run rich() {
        Run x = town("d10000001 o0010 r1105 s2213 g3304 l4402 f5506");
        x.does("row(0, 0)", "row(1, 40)", "lay(1, 0, MIN)", "lay(1, 39, MAX)", "row(2, 3)", "lay(2, 1, -77)");
        x.does("text(0, 0)", "text(1, 80)", "put(1, 79, 200)");
        x.does("print(133, 0)", "keep(0)", "yesterday(132)", "print(132, 1)", "habit(1, 1)", "keep(2)", "habit(1, 0)");
        x.does("print(149, 16)", "holds(0, 133)", "at(2, 1)");
        x.tries("at(3, 0)", "at(0, 0)", "at(0, 1)", "row(0, -1)", "sure(2)", "mark(0, 1)");
        return x;
    }

    /** The same calls on another object. */
    Run again() {
        Run other = new Run();
        for (Call call : calls) {
            other.make(call);
        }
        return other;
    }

    private long make(Call call) {
        calls.add(call);
        if (calls.size() > MOST_CALLS) {
            throw new IllegalStateException("more than " + MOST_CALLS + " calls");
        }
        return call.on(page);
    }

    int calls() {
        return calls.size();
    }

    long answer(String call) {
        return make(new Call(call));
    }

    /** Calls that lead to where a test begins: none may be refused. */
    Run does(String... told) {
        for (String call : told) {
            long answer = answer(call);
            check.due(call + " leads on, it answered " + answer, answer >= 0 ? 1 : 0, 1);
        }
        return this;
    }

    /** Calls that may be refused. */
    Run tries(String... told) {
        for (String call : told) {
            answer(call);
        }
        return this;
    }

    Run writes(int t, String signs) {
        does("text(" + t + ", " + signs.length() + ")");
        for (int i = 0; i < signs.length(); i++) {
            if (signs.charAt(i) != ' ') {
                answer("put(" + t + ", " + i + ", " + (int) signs.charAt(i) + ")");
            }
        }
        return this;
    }

    /** All that can be seen of this run's object, and of each TOWN kept in it, back to the first DAY. */
    private long[] seen() {
        List<Long> all = new ArrayList<>();
        Run now = again();
        for (String call : new String[] {"digest()", "asked()", "upper()", "lower()", "finding()", "findings(1)",
            "findings(2)", "findings(3)", "findings(4)", "findings(5)"}) {
            all.add(now.answer(call));
        }
        for (int k = -1; k < 3; k++) {
            Run back = again();
            all.add(k < 0 ? 0 : back.answer("on(" + k + ")"));
            for (int days = (int) back.answer("count(1)"); days >= 0; days--) {
                back.answer("undo(" + days + ")");
                all.add(back.answer("digest()"));
            }
        }
        long[] numbers = new long[all.size()];
        for (int i = 0; i < numbers.length; i++) {
            numbers[i] = all.get(i);
        }
        return numbers;
    }

    private void seenIs(String call, long[] due) {
        long[] now = seen();
        check.due("how much is seen behind " + call, now.length, due.length);
        for (int i = 0; i < Math.min(now.length, due.length); i++) {
            if (now[i] != due[i]) {
                check.due("number " + i + " of what is seen behind " + call, now[i], due[i]);
                return;
            }
        }
        check.due("all behind " + call, 1, 1);
    }

    Run due(String call, long want) {
        check.due(call, answer(call), want);
        return this;
    }

    /** Answered, and nothing at all is changed. */
    Run still(String call, long want) {
        long[] before = seen();
        due(call, want);
        seenIs(call, before);
        return this;
    }

    /** Answered, and nothing is changed but asked(). */
    Run tells(String call, long want, int asked) {
        long[] before = seen();
        due(call, want);
        before[ASKED] = asked;
        seenIs(call, before);
        return this;
    }

    /** Answered 1, and nothing is changed but upper() and lower(). */
    Run tellsOdds(String call, long upper, long lower) {
        long[] before = seen();
        due(call, 1);
        before[UPPER] = upper;
        before[LOWER] = lower;
        seenIs(call, before);
        return this;
    }

    /** Refused by a FINDING: nothing is changed but finding() and how often that FINDING was answered. */
    Run found(int finding, String... told) {
        for (String call : told) {
            long[] before = seen();
            due(call, FINDING);
            before[LATEST] = finding;
            before[LATEST + finding]++;
            seenIs(call, before);
        }
        return this;
    }

    Run bad(String... told) {
        for (String call : told) {
            still(call, BAD);
        }
        return this;
    }

    Run state(String... told) {
        for (String call : told) {
            still(call, STATE);
        }
        return this;
    }

    Run full(String... told) {
        for (String call : told) {
            still(call, FULL);
        }
        return this;
    }

    /** A number at # is BAD just outside of least .. greatest, and as the least or greatest int; within it is not. */
    Run range(String call, int least, int greatest) {
        for (int v : new int[] {MIN, least - 1, greatest + 1, MAX}) {
            again().bad(call.replace("#", "" + v));
        }
        for (int v : new int[] {least, greatest}) {
            String within = call.replace("#", "" + v);
            check.due(within + " is BAD", again().answer(within) == BAD ? 1 : 0, 0);
        }
        return this;
    }

    /** The places of a ROW are just these. */
    Run rowIs(int r, int... places) {
        Run look = again();
        for (int i = 0; i < places.length; i++) {
            check.due("at(" + r + ", " + i + ")", look.answer("at(" + r + ", " + i + ")"), 1);
            check.due("asked() behind at(" + r + ", " + i + ")", look.answer("asked()"), places[i]);
        }
        check.due("at() behind the end", look.answer("at(" + r + ", " + places.length + ")"), FINDING);
        check.due("finding() behind the end", look.answer("finding()"), BEYOND);
        return this;
    }

    /** All that can be seen is alike. */
    void isAs(Run other, String what) {
        seenIs(what, other.seen());
    }
}
