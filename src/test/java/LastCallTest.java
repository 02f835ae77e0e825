/**
 * What is promised holds up to the 512th call on one object: for each promise calls that lead back to where they
 * began, made again and again, so that each of them is the 512th once. All answers by hand, for Run.rich().
 */
public final class LastCallTest {
    private static final int LAST = 512, PROMISES = 49;
    private static final int BAD = -1, FULL = -2, FINDING = -3, STATE = -4, NONE = -9;
    private static final int MIN = Integer.MIN_VALUE, MAX = Integer.MAX_VALUE;
    private static final boolean[] HELD = new boolean[PROMISES + 1];

    public static void main(String[] args) {
        newObject();
        rowsAndTexts();
        townsAndPeople();
        pagesAndDays();
        whichPages();
        whoReads();
        editorsAndBets();
        whatIsTold();
        findings();
        digest();
        Run.check.part("LastCallTest");
        for (int promise = 1; promise <= PROMISES; promise++) {
            Run.check.due("promise " + promise + " has a test", HELD[promise] ? 1 : 0, 1);
        }
        Run.check.end();
    }

    private static void promise(int number) {
        Run.check.part("promise " + number + " up to call " + LAST);
        HELD[number] = true;
    }

    /** A round is calls, each with its answer behind it; each of its calls is the last one of a run. */
    private static void round(int promise, Object... round) {
        promise(promise);
        int length = round.length / 2;
        for (int last = 0; last < length; last++) {
            Run x = Run.rich();
            while (Math.floorMod(LAST - x.calls() - 1 - last, length) != 0) {
                x.tries("digest()");
            }
            for (int i = 0; x.calls() < LAST; i = (i + 1) % length) {
                x.due((String) round[2 * i], ((Number) round[2 * i + 1]).longValue());
            }
        }
    }

    /** 511 calls that change nothing: it is still as new, and so is another one. */
    private static void newObject() {
        promise(1);
        String[] calls = {"tear(0)", "fault(3)", "town(0)", "person(0, 0)", "print(0, 0)", "keep(0)", "on(0)", "undo(0)",
            "pages(0)", "edit(1, 1)", "lead(0, 0, 0)", "reach()", "nerve()", "luck(1, 1)", "yesterday(0)", "asked()"};
        long asNew = Run.fresh().answer("digest()");
        Run x = Run.fresh();
        for (int i = 0; x.calls() < LAST - 1; i = (i + 1) % calls.length) {
            x.tries(calls[i]);
        }
        x.due("digest()", asNew);
        Run.fresh().due("digest()", asNew).due("asked()", 0).due("upper()", 0).due("lower()", 1).due("finding()", 0);
    }

    private static void rowsAndTexts() {
        round(2, "row(2, 3)", 3, "at(2, 1)", 1, "asked()", 0, "lay(2, 1, 9)", 1, "row(6, 3)", BAD);
        round(3, "lay(2, 1, 5)", 1, "lay(2, 1, -77)", 1, "asked()", 5, "lay(2, 3, 1)", FINDING);
        round(4, "at(1, 39)", 1, "asked()", MAX, "at(2, 1)", 1, "asked()", -77, "at(2, 3)", FINDING);
        round(5, "tear(2)", 1, "tear(2)", FINDING, "count(6)", 2, "row(2, 3)", 3, "count(6)", 3);
        round(6, "copy(1, 0, 2, 0, 1)", 1, "at(2, 0)", 1, "asked()", MIN, "copy(2, 2, 2, 0, 1)", 1, "at(2, 0)", 1,
            "asked()", 0, "copy(2, 0, 1, 0, 4)", FINDING);
        round(7, "mean(2)", 1, "asked()", -25, "mean(0)", FINDING, "mean(1)", 1, "asked()", 0);
        round(8, "text(1, 80)", 80, "put(1, 79, 200)", 1032, "text(1, 81)", BAD, "text(1, -1)", FINDING);
        round(9, "put(1, 79, 7)", 944, "put(1, 79, 200)", 1007, "put(1, 80, 0)", FINDING);
        round(10, "fault(3)", NONE, "fault(0)", 0, "fault(1)", 79, "fault(2)", FINDING);
    }

    private static void townsAndPeople() {
        round(11, "town(3)", 6, "count(1)", 0, "count(2)", 129, "count(8)", 0, "keep(1)", 0, "print(133, 0)", 1,
            "town(1)", STATE);
        round(12, "person(4, 5)", 1, "asked()", 1, "person(5, 4)", 1, "asked()", 6, "person(6, 0)", BAD);
        round(13, "mark(1, 1)", 0, "mark(2, 2)", 1, "mark(3, 3)", 0, "mark(4, 4)", 2, "mark(5, 5)", 1, "mark(0, 1)", FINDING);
        round(14, "habit(0, 0)", 1, "day(0, 0)", 132, "habit(0, 1)", 0, "day(0, 0)", 133, "habit(0, 2)", BAD);
        round(15, "yesterday(0)", 149, "day(0, 0)", 5, "yesterday(149)", 0, "day(0, 0)", 133, "yesterday(256)", BAD);
    }

    private static void pagesAndDays() {
        round(16, "day(132, 1)", 132, "day(133, 25)", 149, "day(0, 63)", 182, "day(255, 63)", 137, "day(0, 64)", BAD);
        round(17, "agrees(133, 0)", 1, "asked()", 0, "agrees(133, 25)", 0, "asked()", 16, "agrees(256, 0)", BAD);
        round(18, "print(149, 16)", 4, "print(132, 1)", 5, "print(0, 0)", STATE, "count(2)", 132, "undo(3)", 2);
        round(18, "print(133, 0)", 4, "luck(36, 1)", 18, "print(133, 0)", FULL, "print(0, 0)", STATE, "undo(3)", 37);
        round(19, "undo(2)", 1, "count(2)", 132, "person(4, 5)", 1, "asked()", 0, "print(149, 16)", 3, "person(4, 5)", 1,
            "asked()", 1, "undo(4)", BAD);
        round(20, "keep(1)", 3, "count(8)", 3, "undo(0)", 3, "on(1)", 3, "keep(3)", BAD);
        round(21, "on(0)", 1, "count(2)", 133, "on(1)", FINDING, "on(2)", 2, "count(2)", 132, "person(1, 3)", 1, "asked()", 1);
    }

    private static void whichPages() {
        round(22, "pages(1)", 2, "asked()", 132, "pages(2)", 0, "asked()", NONE, "pages(64)", BAD);
        round(23, "nth(0, 1)", 132, "nth(1, 1)", 133, "nth(2, 1)", FINDING, "nth(-1, 1)", BAD);
        round(24, "sure(1)", 132, "asked()", 122, "sure(2)", FINDING, "asked()", 122);
        round(25, "torn(1, 1, 1)", 1, "asked()", 133, "torn(1, 0, 0)", 2, "asked()", 132, "torn(0, 255, 0)", 0, "asked()", NONE);
        round(26, "look(1, 0, 0)", 0, "asked()", 1, "look(0, 255, 133)", NONE, "look(2, 0, 0)", FINDING, "asked()", 1);
        round(27, "odds(1, 0)", 1, "upper()", 1, "lower()", 2, "odds(0, 1)", 1, "upper()", 0, "lower()", 1,
            "odds(2, 0)", FINDING);
    }

    private static void whoReads() {
        round(28, "mustNot()", 38, "asked()", 3);
        round(29, "most()", 2, "asked()", 9);
        round(30, "who(133)", 25, "asked()", 1, "who(132)", 1, "asked()", 0, "who(256)", BAD);
        round(31, "sets(133)", 5, "asked()", 0, "sets(132)", 2, "asked()", 1, "sets(0)", 0, "asked()", NONE);
        round(32, "holds(0, 133)", 1, "upper()", 1, "lower()", 4, "holds(1, 133)", 1, "upper()", 0, "lower()", 1,
            "holds(0, 0)", FINDING);
        round(33, "halves(0, 0, 3, 0)", 1, "asked()", 133, "halves(0, 1, 3, 8)", 4, "asked()", 132,
            "halves(0, 255, 1, 255)", 0, "asked()", NONE, "halves(0, 0, 0, 0)", BAD);
        round(34, "spoil(0, 133)", 1, "spoil(3, 141)", 1, "spoil(0, 0)", STATE, "spoil(6, 0)", BAD);
    }

    private static void editorsAndBets() {
        round(35, "edit(8, 8)", 1, "asked()", 8, "edit(2, 2)", NONE, "asked()", 8, "edit(255, 132)", 1, "asked()", 1);
        round(36, "choose(1, 0, 0)", 132, "choose(1, 1, 1)", 133, "choose(2, 0, 0)", NONE, "choose(64, 0, 0)", BAD);
        round(37, "lead(16, 0, 3)", 1, "at(3, 0)", 1, "asked()", 132, "lead(2, 2, 3)", NONE, "lead(255, 149, 3)", 0,
            "at(3, 0)", FINDING, "lead(0, 0, 6)", BAD);
        round(38, "reach()", 4, "asked()", 149);
        round(39, "bet(0)", 59, "asked()", 5, "bet(6)", 41, "asked()", 3, "bet(7)", BAD);
        round(40, "numbers()", 16, "asked()", 1);
        round(41, "nerve()", 0, "asked()", 0);
        round(42, "luck(37, 1)", 19, "luck(1, 1)", FULL, "luck(0, 1)", BAD, "undo(3)", 37);
    }

    private static void whatIsTold() {
        round(43, "at(2, 1)", 1, "asked()", -77, "pages(2)", 0, "asked()", NONE, "edit(2, 2)", NONE, "asked()", NONE);
        round(44, "odds(1, 0)", 1, "upper()", 1, "holds(1, 133)", 1, "upper()", 0);
        round(45, "odds(1, 0)", 1, "lower()", 2, "holds(0, 133)", 1, "lower()", 4);
        round(46, "count(0)", 6, "count(1)", 3, "count(2)", 149, "count(3)", 2, "count(4)", 2, "count(5)", 6, "count(6)", 3,
            "count(7)", 3, "count(8)", 2, "count(9)", BAD);
        round(47, "at(3, 0)", FINDING, "finding()", 1, "at(0, 0)", FINDING, "finding()", 2, "mark(0, 1)", FINDING,
            "finding()", 3, "mean(0)", FINDING, "finding()", 4, "row(0, -1)", FINDING, "finding()", 5);
    }

    /** As often as there is room for: each call ahead of the last one. */
    private static void findings() {
        String[] calls = {"at(3, 0)", "at(0, 0)", "mark(0, 1)", "mean(0)", "row(0, -1)"};
        promise(48);
        for (int f = 1; f <= calls.length; f++) {
            Run x = Run.rich();
            long due = x.answer("findings(" + f + ")");
            for (; x.calls() < LAST - 1; due++) {
                x.due(calls[f - 1], FINDING);
            }
            x.due("findings(" + f + ")", due);
        }
        Run fresh = Run.fresh();
        while (fresh.calls() < LAST - 1) {
            fresh.due("tear(5)", FINDING);
        }
        fresh.due("findings(1)", LAST - 1);
    }

    private static void digest() {
        long h = ToldEdges.fold(17, 6, 3, 149, 2, 2, 6, 3, 3, 2);
        h = ToldEdges.fold(h, 0, 0, 0, 1, 0, 1, 1, 1, 1, 0, 5, 0, 2, 2, 2, 1, 3, 0);
        h = ToldEdges.fold(h, 3, 3, 3, 0, 4, 0, 4, 4, 4, 0, 2, 1, 5, 5, 5, 0, 6, 0);
        h = ToldEdges.fold(h, 0, 1, 16, 1, -1, 2, 0);
        h = ToldEdges.fold(ToldEdges.foldSame(ToldEdges.fold(h, 40, MIN), 38, 0), MAX, 3, 0, -77, 0, -1, -1, -1);
        h = ToldEdges.fold(ToldEdges.foldSame(ToldEdges.fold(h, 0, 80), 79, 32), (byte) 200, -1, 45);
        for (char sign : "d10000001 o0010 r1105 s2213 g3304 l4402 f5506".toCharArray()) {
            h = ToldEdges.fold(h, sign);
        }
        round(49, "digest()", h, "print(133, 9)", 4, "undo(3)", 1, "habit(5, 1)", 0, "habit(5, 0)", 1, "digest()", h,
            "lay(2, 1, 8)", 1, "lay(2, 1, -77)", 1, "on(2)", 2, "habit(1, 0)", 1, "print(149, 16)", 3);
    }
}
