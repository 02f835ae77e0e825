/** Promises 43 to 49: what is told. */
final class ToldEdges {
    private static final int NOTHING = Run.NOTHING, BEYOND = Run.BEYOND, UNLIKE = Run.UNLIKE, NOUGHT = Run.NOUGHT;
    private static final int SIZE = Run.SIZE, NONE = Run.NONE, MIN = Run.MIN, MAX = Run.MAX;

    /** Calls that tell nothing by asked(), none of them refused in the rich one. */
    private static final String[] SILENT = {
        "row(3, 40)", "tear(1)", "copy(1, 0, 2, 0, 3)", "text(2, 80)", "put(1, 0, 65)", "fault(3)", "fault(1)", "town(3)",
        "mark(1, 1)", "mark(4, 4)", "habit(0, 0)", "yesterday(0)", "day(0, 0)", "print(133, 0)", "undo(0)", "undo(3)",
        "keep(1)", "on(0)", "nth(0, 0)", "odds(0, 0)", "holds(0, 133)", "spoil(0, 133)", "choose(0, 0, 0)",
        "choose(2, 0, 0)", "lead(1, 1, 0)", "lead(1, 0, 0)", "lead(2, 2, 0)", "luck(37, 1)", "asked()", "upper()",
        "lower()", "count(0)", "finding()", "findings(1)", "digest()"};

    /** Calls that tell something by asked(), and what they tell in the rich one. */
    private static final String[] TELLING = {"lay(1, 0, 5)", "at(1, 39)", "mean(2)", "person(1, 4)", "agrees(132, 0)",
        "pages(1)", "sure(0)", "torn(1, 1, 1)", "look(1, 0, 0)", "mustNot()", "most()", "who(133)", "sets(133)",
        "halves(0, 0, 3, 0)", "edit(8, 8)", "reach()", "bet(0)", "numbers()", "nerve()"};
    private static final int[] TOLD = {MIN, MAX, -25, 5, 1, 132, 122, 133, 1, 3, 9, 1, 0, 133, 8, 149, 5, 1, 0};

    /** Calls of that kind that are refused. */
    private static final String[] REFUSED = {
        "lay(1, 40, 5)", "lay(6, 0, 0)", "lay(3, 0, 0)", "at(1, 40)", "at(-1, 0)", "at(3, 0)", "mean(0)", "mean(3)",
        "mean(6)", "person(6, 0)", "person(0, 6)", "agrees(256, 0)", "agrees(0, 64)", "pages(64)", "sure(64)", "sure(2)",
        "torn(64, 0, 0)", "torn(0, 256, 0)", "torn(0, 0, 256)", "look(64, 0, 0)", "look(2, 0, 0)", "who(256)",
        "sets(256)", "halves(0, 0, 0, 0)", "halves(0, 256, 1, 0)", "edit(256, 0)", "bet(7)", "bet(-1)"};

    /** Calls that answer NONE. */
    private static final String[] WITH_NONE = {"fault(3)", "look(0, 255, 133)", "edit(2, 2)", "choose(2, 0, 0)",
        "lead(2, 2, 0)"};

    // 0 before.
    static void p43Before() {
        Run.fresh().still("asked()", 0).bad("pages(1)", "bet(7)").found(NOTHING, "at(0, 0)").still("edit(1, 1)", NONE)
            .still("nerve()", NONE).still("asked()", 0);
    }

    // What the latest of these told: each of the nineteen.
    static void p43TheLatest() {
        Run all = Run.rich();
        for (int i = 0; i < TELLING.length; i++) {
            Run.rich().tries(TELLING[i]).due("asked()", TOLD[i]).due("asked()", TOLD[i]);
            all.tries(TELLING[i]).due("asked()", TOLD[i]);
        }
    }

    // The others tell nothing.
    static void p43TheOthers() {
        for (String call : SILENT) {
            Run.rich().tries(call).due("asked()", -77);
        }
    }

    // Nor one that was refused.
    static void p43Refused() {
        for (String call : REFUSED) {
            Run x = Run.rich();
            Run.check.due(call + " is refused", x.answer(call) < 0 ? 1 : 0, 1);
            x.due("asked()", -77);
        }
    }

    // Nor NONE, but as told: pages(), torn(), sets(), halves() tell it.
    static void p43None() {
        for (String call : WITH_NONE) {
            Run.rich().due(call, NONE).due("asked()", -77);
        }
        Run.town("d00000000r0002r0002r0002").does("agrees(9, 0)").due("nerve()", NONE).due("asked()", 9);
        Run.rich().due("pages(2)", 0).due("asked()", NONE);
        Run.rich().due("torn(0, 255, 0)", 0).due("asked()", NONE);
        Run.rich().due("sets(0)", 0).due("asked()", NONE);
        Run.rich().due("halves(0, 255, 1, 255)", 0).due("asked()", NONE);
    }

    // 0 before.
    static void p44Before() {
        Run.fresh().still("upper()", 0).bad("odds(1, 0)", "holds(0, 0)").still("upper()", 0);
    }

    // Of the ODDS that were told last: 0, and the greatest that is no 1 by 1.
    static void p44TheLast() {
        Run x = Run.town("d00000000o0000o1000o1100").due("odds(7, 0)", 1).due("upper()", 2).due("odds(7, 2)", 1)
            .due("upper()", 0);
        x.due("holds(0, 1)", 1).due("upper()", 1);
    }

    // No other call changes them, nor one that is refused.
    static void p44TheOthersStay() {
        for (String[] calls : new String[][] {SILENT, TELLING, REFUSED, WITH_NONE}) {
            for (String call : calls) {
                if (!call.startsWith("odds") && !call.startsWith("holds")) {
                    Run.rich().tries(call).due("upper()", 1).due("lower()", 4);
                }
            }
        }
        Run.rich().tries("odds(2, 0)", "odds(64, 0)", "odds(0, 8)", "holds(0, 0)", "holds(6, 0)").due("upper()", 1)
            .due("lower()", 4);
    }

    // 1 before.
    static void p45Before() {
        Run.fresh().still("lower()", 1).bad("odds(1, 0)", "holds(0, 0)").still("lower()", 1);
    }

    // The lower number above 0 (0 by 1), in lowest terms; up to 7 who alone can have it, or nobody.
    static void p45TheLast() {
        Run.town("d00000000o0000o1000o1100").due("odds(7, 0)", 1).due("lower()", 3).due("odds(7, 2)", 1)
            .due("lower()", 1);
        Run.town(Run.SIX_ONES).due("odds(63, 0)", 1).due("lower()", 2).due("holds(0, 0)", 1).due("lower()", 7)
            .due("holds(0, 1)", 1)
            .due("lower()", 1).due("holds(1, 1)", 1).due("lower()", 1).due("upper()", 0);
    }

    // 0 .. 8.
    static void p46What() {
        Run.rich().range("count(#)", 0, 8);
        Run.fresh().range("count(#)", 0, 8);
    }

    private static void counts(Run x, int... due) {
        for (int what = 0; what <= 8; what++) {
            x.due("count(" + what + ")", due[what]);
        }
    }

    // Nothing there; YESTERDAY without PEOPLE.
    static void p46Nothing() {
        counts(Run.fresh(), 0, 0, 0, 0, 0, 0, 0, 0, 0);
        counts(Run.fresh().does("yesterday(255)"), 0, 0, 255, 0, 0, 0, 0, 0, 0);
    }

    // All there is room for: 6 PEOPLE, 40 DAYS, YESTERDAY 255, 6 ROWS, 4 TEXTS, 3 kept TOWNS; rows of none count.
    static void p46All() {
        Run x = Run.town("d11111111r0010l1110r2210l3310r4410l5510")
            .does("luck(40, 1)", "keep(0)", "keep(1)", "keep(2)");
        for (int r = 0; r < 6; r++) {
            x.does("row(" + r + ", 0)");
        }
        counts(x.does("text(0, 0)", "text(1, 0)", "text(2, 80)", "yesterday(255)"), 6, 40, 255, 6, 0, 6, 6, 4, 3);
    }

    // REBELS (SLY ones, too), GAMBLERS (FOOLS, too): none, all, some; the other KINDS are neither.
    static void p46Kinds() {
        counts(Run.town("d00000000g0000f0000g0000f0000g0000f0000"), 6, 0, 0, 0, 6, 1, 0, 1, 0);
        counts(Run.town("d00000000o0000s0000o0000s0000o0000s0000"), 6, 0, 0, 0, 0, 1, 0, 1, 0);
        counts(Run.town("d00000000o0000r0100s0200g0700l0600f0600"), 6, 0, 0, 2, 2, 5, 0, 1, 0);
        counts(Run.rich(), 6, 3, 149, 2, 2, 6, 3, 3, 2);
    }

    // FACTS that somebody DOES, not those that one WATCHES.
    static void p46Facts() {
        Run.town("d11111111o0700o1700o2700").still("count(5)", 1);
        Run.town("d11111111o7000o7100o7200o7300o7400o7500").still("count(5)", 6);
    }

    // 0 before any.
    static void p47Before() {
        Run.fresh().still("finding()", 0).bad("row(6, 0)").state("print(0, 0)").still("nerve()", NONE)
            .still("finding()", 0);
    }

    // The latest, each of the five.
    static void p47TheLatest() {
        Run.rich().found(NOTHING, "at(3, 0)").due("finding()", 1).found(BEYOND, "at(0, 0)").due("finding()", 2)
            .found(UNLIKE, "mark(0, 1)").due("finding()", 3).found(NOUGHT, "mean(0)").due("finding()", 4)
            .found(SIZE, "row(0, -1)").due("finding()", 5).found(NOTHING, "on(1)").due("finding()", 1);
    }

    // BAD, STATE, FULL and NONE are none, nor what is answered.
    static void p47NoFinding() {
        Run x = Run.rich().tries("at(6, 0)", "town(0)", "print(0, 0)", "luck(38, 1)", "look(0, 255, 133)",
            "edit(2, 2)");
        x.due("finding()", 3);
        for (String[] calls : new String[][] {SILENT, TELLING, WITH_NONE}) {
            for (String call : calls) {
                Run.rich().tries(call).due("finding()", 3).due("findings(3)", 1);
            }
        }
    }

    // A FINDING is 1 .. 5.
    static void p48Which() {
        Run.rich().range("findings(#)", 1, 5);
        Run.fresh().range("findings(#)", 1, 5);
    }

    // How often: never at first, then each by itself.
    static void p48HowOften() {
        Run x = Run.fresh();
        for (int f = 1; f <= 5; f++) {
            x.still("findings(" + f + ")", 0);
        }
        for (int time = 1; time <= 100; time++) {
            x.tries("at(0, 0)");
        }
        x.due("findings(1)", 100).due("findings(2)", 0).due("findings(3)", 0).due("findings(4)", 0)
            .due("findings(5)", 0);
        Run.rich().due("findings(1)", 1).due("findings(2)", 2).due("findings(3)", 1).due("findings(4)", 1)
            .due("findings(5)", 1);
    }

    // They stay behind a new TOWN, and one gone on from.
    static void p48Stay() {
        Run.rich().does("town(3)").due("findings(2)", 2).due("finding()", 3);
        Run.rich().does("on(0)").due("findings(2)", 2).due("finding()", 3);
    }

    static long fold(long before, long... values) {
        long h = before;
        for (long v : values) {
            h = 31 * h + v;
        }
        return h;
    }

    static long foldSame(long before, int times, long v) {
        long h = before;
        for (int i = 0; i < times; i++) {
            h = 31 * h + v;
        }
        return h;
    }

    // Of a new object: 9 counts 0; 3 TOWNS, 6 ROWS, 4 TEXTS missing.
    static void p49New() {
        Run.fresh().still("digest()", foldSame(foldSame(17, 9, 0), 13, -1));
    }

    // -1: missing; 0: of none.
    static void p49MissingAndOfNone() {
        long h = foldSame(fold(foldSame(17, 6, 0), 1, 1, 0), 3, -1);
        Run.fresh().does("row(5, 0)", "text(0, 0)").still("digest()", fold(foldSame(h, 5, -1), 0, 0, -1, -1, -1));
    }

    // All there is room for, with negative numbers; it runs over as a long does.
    static void p49All() {
        Run x = Run.town(Run.SIX_ONES).does("keep(0)");
        for (int day = 0; day < 40; day++) {
            x.does("print(0, " + (day % 2 == 0 ? 63 : day) + ")");
        }
        x.does("keep(2)", "keep(1)", "yesterday(255)");
        for (int r = 0; r < 6; r++) {
            x.does("row(" + r + ", 40)", "lay(" + r + ", 0, MIN)", "lay(" + r + ", 39, MAX)");
        }
        for (int t = 0; t < 4; t++) {
            x.does("text(" + t + ", 80)", "put(" + t + ", 0, 128)", "put(" + t + ", 79, 127)");
        }
        long h = fold(17, 6, 40, 255, 0, 0, 6, 6, 4, 3);
        int[] read = new int[6];
        for (int day = 0; day < 40; day++) {
            for (int one = 0; one < 6; one++) {
                read[one] += (day % 2 == 0 ? 63 : day) >> one & 1;
            }
        }
        for (int one = 0; one < 6; one++) {
            h = fold(h, 0, one, one, 0, 0, read[one]);
        }
        for (int day = 0; day < 40; day++) {
            h = fold(h, day % 2 == 0 ? 63 : day);
        }
        h = fold(h, 0, 40, 40);
        for (int r = 0; r < 6; r++) {
            h = fold(foldSame(fold(h, 40, MIN), 38, 0), MAX);
        }
        for (int t = 0; t < 4; t++) {
            h = fold(foldSame(fold(h, 80, -128), 78, 32), 127);
        }
        x.still("digest()", h);
    }

    // It tells nothing else, and changes nothing.
    static void p49ChangesNothing() {
        Run x = Run.rich();
        long h = x.answer("digest()");
        x.still("digest()", h).still("digest()", h);
    }
}
