import java.util.Random;

/** Many runs of calls by lots, with the program and the Model side by side; all that can be asked is compared. */
public final class ModelTest {
    private static final int RUNS = 700, CALLS = 250, CALL_KINDS = 43;
    private static final int[] ODD = {-1, Integer.MIN_VALUE, Integer.MAX_VALUE, 256, 41, 81, 7, 64, -128, 1000};
    private final Random lots;
    private final TomorrowPage page = new TomorrowPage();
    private final Model model = new Model();
    private String call = "";

    private ModelTest(long seed) {
        lots = new Random(seed);
    }

    public static void main(String[] args) {
        long first = args.length > 0 ? Long.parseLong(args[0]) : 1;
        int wrong = 0;
        int runs = args.length > 1 ? Integer.parseInt(args[1]) : RUNS;
        for (long seed = first; seed < first + runs && wrong < 5; seed++) {
            if (!new ModelTest(seed).run(seed)) {
                wrong++;
            }
        }
        System.out.println(runs + " runs of " + CALLS + " calls, " + wrong + " not as due");
        if (wrong != 0) {
            System.exit(1);
        }
    }

    private boolean run(long seed) {
        for (int i = 0; i < CALLS; i++) {
            int which = lots.nextInt(CALL_KINDS + 12);
            long[] both = which >= CALL_KINDS ? writeTown() : callOne(which);
            String unlike = both[0] != both[1] ? both[0] + ", due is " + both[1] : unlikeState();
            if (!unlike.isEmpty()) {
                System.out.println("seed " + seed + " call " + i + ": " + call + " answered " + unlike);
                return false;
            }
        }
        return true;
    }

    private String unlikeState() {
        if (page.asked() != model.asked) return "- asked() " + page.asked() + ", due is " + model.asked;
        if (page.upper() != model.upper) return "- upper() " + page.upper() + ", due is " + model.upper;
        if (page.lower() != model.lower) return "- lower() " + page.lower() + ", due is " + model.lower;
        if (page.finding() != model.finding) return "- finding() " + page.finding() + ", due is " + model.finding;
        for (int f = 0; f <= 6; f++) {
            if (page.findings(f) != model.findings(f)) return "- findings(" + f + ")";
        }
        for (int what = -1; what <= 9; what++) {
            if (page.count(what) != model.count(what)) return "- count(" + what + ")";
        }
        if (page.digest() != model.digest()) return "- digest()";
        return "";
    }

    /** A number below a bound, now and then one that is odd. */
    private int to(int bound) {
        return lots.nextInt(40) == 0 ? ODD[lots.nextInt(ODD.length)] : lots.nextInt(Math.max(1, bound));
    }

    private int one() {
        return to(model.now.people.size());
    }

    private int set() {
        int people = model.now.people.size();
        return lots.nextInt(3) == 0 && people > 0 ? 1 << lots.nextInt(people) : to(1 << people);
    }

    /** A PAGE, often one that AGREES with the readers. */
    private int pageFor(int readers) {
        int many = lots.nextInt(4) == 0 ? 0 : page.pages(readers);
        model.pages(readers);
        page.pages(readers);
        return many > 0 ? model.nth(lots.nextInt(many), readers) : to(256);
    }

    /** A set of few FACTS more often than not. */
    private int facts() {
        return lots.nextInt(3) == 0 ? to(256) : 1 << lots.nextInt(8) | 1 << lots.nextInt(8);
    }

    private String someTown() {
        StringBuilder signs = new StringBuilder(" ".repeat(lots.nextInt(3))).append('d');
        int facts = 1 + lots.nextInt(8);
        for (int i = 0; i < 8; i++) {
            signs.append(lots.nextInt(2));
        }
        int people = lots.nextInt(40) == 0 ? 7 : lots.nextInt(7);
        for (int x = 0; x < people; x++) {
            signs.append(" ".repeat(lots.nextInt(3))).append("orsglf".charAt(lots.nextInt(6)));
            signs.append(lots.nextInt(facts)).append(lots.nextInt(facts)).append(lots.nextInt(2)).append(lots.nextInt(7));
        }
        signs.append(" ".repeat(lots.nextInt(3)));
        if (lots.nextInt(6) == 0) {
            signs.setCharAt(lots.nextInt(signs.length()), "drso01238 x".charAt(lots.nextInt(11)));
        }
        if (lots.nextInt(12) == 0) {
            signs.setLength(lots.nextInt(signs.length()));
        }
        return signs.toString();
    }

    private long[] writeTown() {
        if (lots.nextInt(6) != 0) {
            return callOne(lots.nextInt(CALL_KINDS));
        }
        int t = lots.nextInt(4);
        String signs = someTown();
        page.text(t, signs.length());
        model.text(t, signs.length());
        for (int i = 0; i < signs.length(); i++) {
            page.put(t, i, signs.charAt(i));
            model.put(t, i, signs.charAt(i));
        }
        call = "fault of '" + signs + "'";
        if (page.fault(t) != model.fault(t)) {
            return both(call, page.fault(t), model.fault(t));
        }
        return both("town of '" + signs + "'", page.town(t), model.town(t));
    }

    private long[] both(String what, long got, long due) {
        call = what;
        return new long[] {got, due};
    }

    private long[] callOne(int which) {
        if (which < 15) {
            return callOfRowsAndTowns(which);
        }
        return which < 28 ? callOfPages(which) : callOfReaders(which);
    }

    private long[] callOfRowsAndTowns(int which) {
        int a = to(6);
        int b = to(12);
        int c = to(6);
        int d = to(12);
        int e = to(12);
        int t = to(4);
        int v = lots.nextInt(4) == 0 ? lots.nextInt() : lots.nextInt(200) - 100;
        int x = one();
        int n = to(41);
        switch (which) {
            case 0: return both("row(" + a + ", " + n + ")", page.row(a, n), model.row(a, n));
            case 1: return both("lay(" + a + ", " + b + ", " + v + ")", page.lay(a, b, v), model.lay(a, b, v));
            case 2: return both("at(" + a + ", " + b + ")", page.at(a, b), model.at(a, b));
            case 3: return lots.nextInt(3) > 0 ? both("-", 0, 0) : both("tear(" + a + ")", page.tear(a), model.tear(a));
            case 4: return both("copy(" + a + ", " + b + ", " + c + ", " + d + ", " + e + ")",
                page.copy(a, b, c, d, e), model.copy(a, b, c, d, e));
            case 5: return both("mean(" + a + ")", page.mean(a), model.mean(a));
            case 6: return lots.nextInt(3) > 0 ? both("-", 0, 0) : both("text(" + t + ", " + n + ")", page.text(t, n), model.text(t, n));
            case 7: return both("put(" + t + ", " + n + ", " + v + ")", page.put(t, n, v), model.put(t, n, v));
            case 8: return both("fault(" + t + ")", page.fault(t), model.fault(t));
            case 9: return both("town(" + t + ")", page.town(t), model.town(t));
            case 10: return both("person(" + x + ", " + a + ")", page.person(x, a), model.person(x, a));
            case 11: return both("mark(" + x + ", " + a + ")", page.mark(x, a), model.mark(x, a));
            case 12: {
                int h = to(2);
                return both("habit(" + x + ", " + h + ")", page.habit(x, h), model.habit(x, h));
            }
            case 13: {
                int day = to(256);
                return both("yesterday(" + day + ")", page.yesterday(day), model.yesterday(day));
            }
            default: return both("mark(" + x + ", 4)", page.mark(x, 4), model.mark(x, 4));
        }
    }

    private long[] callOfPages(int which) {
        int s = set();
        int p = pageFor(s);
        int f = facts();
        int k = to(3);
        int i = to(3);
        int n = to(41);
        switch (which) {
            case 15: return both("day(" + p + ", " + s + ")", page.day(p, s), model.day(p, s));
            case 16: return both("agrees(" + p + ", " + s + ")", page.agrees(p, s), model.agrees(p, s));
            case 17: return both("print(" + p + ", " + s + ")", page.print(p, s), model.print(p, s));
            case 18: {
                int from = to(model.now.days.size() + 2);
                return both("undo(" + from + ")", page.undo(from), model.undo(from));
            }
            case 19: return both("keep(" + k + ")", page.keep(k), model.keep(k));
            case 20: return both("on(" + k + ")", page.on(k), model.on(k));
            case 21: return both("pages(" + s + ")", page.pages(s), model.pages(s));
            case 22: return both("nth(" + i + ", " + s + ")", page.nth(i, s), model.nth(i, s));
            case 23: return both("sure(" + s + ")", page.sure(s), model.sure(s));
            case 24: return both("torn(" + s + ", " + f + ", " + p + ")", page.torn(s, f, p), model.torn(s, f, p));
            case 25: return both("look(" + s + ", " + f + ", " + p + ")", page.look(s, f, p), model.look(s, f, p));
            case 26: {
                int fact = to(8);
                return both("odds(" + s + ", " + fact + ")", page.odds(s, fact), model.odds(s, fact));
            }
            default: {
                int seed = lots.nextInt(30) == 0 ? to(1) : 1 + lots.nextInt(2147483646);
                int days = lots.nextInt(2) == 0 ? n : 1 + lots.nextInt(5);
                return both("luck(" + days + ", " + seed + ")", page.luck(days, seed), model.luck(days, seed));
            }
        }
    }

    private long[] callOfReaders(int which) {
        int s = set();
        int p = pageFor(s);
        int x = one();
        int y = one();
        int f = facts();
        int g = facts();
        int r = to(6);
        int n = to(7);
        switch (which) {
            case 28: return both("mustNot()", page.mustNot(), model.mustNot());
            case 29: return both("most()", page.most(), model.most());
            case 30: return both("who(" + p + ")", page.who(p), model.who(p));
            case 31: return both("sets(" + p + ")", page.sets(p), model.sets(p));
            case 32: return both("holds(" + x + ", " + p + ")", page.holds(x, p), model.holds(x, p));
            case 33: return both("halves(" + x + ", " + f + ", " + y + ", " + g + ")",
                page.halves(x, f, y, g), model.halves(x, f, y, g));
            case 34: return both("spoil(" + x + ", " + p + ")", page.spoil(x, p), model.spoil(x, p));
            case 35: return both("edit(" + f + ", " + p + ")", page.edit(f, p), model.edit(f, p));
            case 36: return both("choose(" + s + ", " + f + ", " + p + ")", page.choose(s, f, p), model.choose(s, f, p));
            case 37: return both("lead(" + f + ", " + p + ", " + r + ")", page.lead(f, p, r), model.lead(f, p, r));
            case 38: return both("reach()", page.reach(), model.reach());
            case 39: return both("bet(" + n + ")", page.bet(n), model.bet(n));
            case 40: return both("numbers()", page.numbers(), model.numbers());
            case 41: return both("nerve()", page.nerve(), model.nerve());
            default: {
                int alone = x >= 0 && x < 6 ? pageFor(1 << x) : p;
                return both("spoil(" + x + ", " + alone + ")", page.spoil(x, alone), model.spoil(x, alone));
            }
        }
    }
}
