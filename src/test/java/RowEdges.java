/** Promises 1 to 7: a new object, ROWS. */
final class RowEdges {
    private static final int NOTHING = Run.NOTHING, BEYOND = Run.BEYOND, NOUGHT = Run.NOUGHT, SIZE = Run.SIZE;
    private static final int MIN = Run.MIN, MAX = Run.MAX, NONE = Run.NONE;

    // No ROWS.
    static void p01NoRows() {
        for (int r = 0; r <= 5; r++) {
            Run.fresh().found(NOTHING, "at(" + r + ", 0)", "lay(" + r + ", 0, 1)", "tear(" + r + ")", "mean(" + r + ")",
                "copy(" + r + ", 0, " + r + ", 0, 0)");
        }
        Run.fresh().still("count(6)", 0);
    }

    // No TEXTS.
    static void p01NoTexts() {
        for (int t = 0; t <= 3; t++) {
            Run.fresh().found(NOTHING, "put(" + t + ", 0, 1)", "fault(" + t + ")", "town(" + t + ")");
        }
        Run.fresh().still("count(7)", 0);
    }

    // No PEOPLE: there is nobody to be asked about, and no set but that of nobody.
    static void p01NoPeople() {
        Run x = Run.fresh().still("count(0)", 0).still("count(3)", 0).still("count(4)", 0).still("count(5)", 0);
        x.bad("person(0, 0)", "mark(0, 1)", "habit(0, 0)", "holds(0, 0)", "halves(0, 0, 1, 0)", "spoil(0, 0)");
        x.bad("day(0, 1)", "agrees(0, 1)", "print(0, 1)", "pages(1)", "nth(0, 1)", "sure(1)", "torn(1, 0, 0)");
        x.bad("look(1, 0, 0)", "odds(1, 0)", "choose(1, 0, 0)");
    }

    // Nothing is so YESTERDAY.
    static void p01NothingIsSo() {
        Run.fresh().still("count(2)", 0).still("day(255, 0)", 0).still("yesterday(0)", 0);
        Run.fresh().tells("pages(0)", 1, 0).tells("sure(0)", 0, 255);
    }

    // There are no DAYS and no kept TOWNS in it, and nothing has been told.
    static void p01NothingElse() {
        Run x = Run.fresh().still("count(1)", 0).still("count(8)", 0).still("undo(0)", 0).bad("undo(1)");
        x.still("asked()", 0).still("upper()", 0).still("lower()", 1).still("finding()", 0);
        for (int f = 1; f <= 5; f++) {
            x.still("findings(" + f + ")", 0);
        }
        x.found(NOTHING, "on(0)", "on(1)", "on(2)");
    }

    // A new object has nothing of another one.
    static void p01NothingOfAnother() {
        Run before = Run.fresh();
        Run.rich();
        Run.fresh().isAs(before, "another object");
    }

    // ROWS are 0 .. 5.
    static void p02WhichRow() {
        Run.rich().range("row(#, 3)", 0, 5);
        Run.fresh().range("row(#, 3)", 0, 5);
    }

    // A ROW is there with n ints: none at least.
    static void p02OfNone() {
        Run.rich().due("row(1, 0)", 0).rowIs(1).due("row(5, 0)", 0).rowIs(5).due("count(6)", 4);
    }

    // 40 at most; all of them 0.
    static void p02Of40() {
        Run.rich().due("row(5, 40)", 40).rowIs(5, new int[40]);
        Run.fresh().due("row(0, 40)", 40).rowIs(0, new int[40]).due("count(6)", 1);
    }

    // Between them: as many as told.
    static void p02Of1And39() {
        Run.fresh().due("row(0, 1)", 1).rowIs(0, 0).due("row(0, 39)", 39).rowIs(0, new int[39]);
    }

    // BAD: also n above 40.
    static void p02Above40() {
        Run.rich().bad("row(1, 41)", "row(1, MAX)", "row(3, 41)", "row(3, MAX)");
    }

    // SIZE: below 0.
    static void p02Below0() {
        Run.rich().found(SIZE, "row(1, -1)", "row(1, MIN)", "row(3, -1)", "row(3, MIN)");
    }

    // The first that fits: BAD ahead of a FINDING.
    static void p02BadAheadOfSize() {
        Run.rich().bad("row(6, -1)", "row(-1, -1)", "row(MIN, MIN)", "row(MAX, MIN)", "row(-1, 41)", "row(6, MAX)");
    }

    // The ints are 0, also where another ROW stood there.
    static void p02Anew() {
        Run.rich().due("row(1, 40)", 40).rowIs(1, new int[40]);
        Run.rich().due("row(1, 39)", 39).due("row(1, 40)", 40).rowIs(1, new int[40]);
        Run.rich().does("tear(1)").due("row(1, 40)", 40).rowIs(1, new int[40]);
    }

    // It is that ROW alone.
    static void p02TheOthersStay() {
        Run.rich().does("row(1, 2)", "row(3, 2)").rowIs(2, 0, -77, 0).rowIs(0);
    }

    // ROWS are 0 .. 5.
    static void p03WhichRow() {
        Run.rich().range("lay(#, 0, 5)", 0, 5);
    }

    // NOTHING: a ROW that is missing.
    static void p03Missing() {
        Run.rich().found(NOTHING, "lay(3, 0, 1)", "lay(5, 0, 1)").does("tear(2)").found(NOTHING, "lay(2, 0, 1)");
    }

    // BEYOND: in a ROW of none there is no place.
    static void p03OfNone() {
        Run.rich().found(BEYOND, "lay(0, 0, 1)", "lay(0, -1, 1)", "lay(0, 1, 1)", "lay(0, MIN, 1)", "lay(0, MAX, 1)");
    }

    // In one of 40 there are places 0 .. 39.
    static void p03Of40() {
        Run x = Run.rich().due("lay(1, 0, 7)", 1).due("asked()", MIN).due("lay(1, 39, 8)", 1).due("asked()", MAX);
        x.due("at(1, 0)", 1).due("asked()", 7).due("at(1, 39)", 1).due("asked()", 8).due("at(1, 38)", 1)
            .due("asked()", 0);
        x.found(BEYOND, "lay(1, -1, 1)", "lay(1, 40, 1)", "lay(1, MIN, 1)", "lay(1, MAX, 1)");
    }

    // In one of 3 there are places 0 .. 2.
    static void p03Of3() {
        Run.rich().due("lay(2, 0, 4)", 1).due("lay(2, 2, 6)", 1).rowIs(2, 4, -77, 6)
            .found(BEYOND, "lay(2, 3, 1)", "lay(2, -1, 1)", "lay(2, 39, 1)");
    }

    // Place i is v: any int.
    static void p03AnyInt() {
        Run.rich().due("lay(2, 1, MIN)", 1).due("asked()", -77).due("lay(2, 1, MAX)", 1).due("asked()", MIN)
            .due("lay(2, 1, 0)", 1).due("asked()", MAX).due("lay(2, 1, -1)", 1).due("asked()", 0).rowIs(2, 0, -1, 0);
    }

    // The first that fits: BAD, NOTHING, BEYOND.
    static void p03Order() {
        Run.rich().bad("lay(6, 40, 1)", "lay(-1, -1, 1)", "lay(MAX, MAX, 1)", "lay(MIN, MIN, MIN)")
            .found(NOTHING, "lay(3, -1, 1)", "lay(3, 40, 1)", "lay(3, MAX, 1)", "lay(3, MIN, 1)");
    }

    // ROWS are 0 .. 5.
    static void p04WhichRow() {
        Run.rich().range("at(#, 0)", 0, 5);
    }

    // NOTHING: a ROW that is missing.
    static void p04Missing() {
        Run.rich().found(NOTHING, "at(3, 0)", "at(5, 0)").does("tear(2)").found(NOTHING, "at(2, 0)");
    }

    // BEYOND: in a ROW of none there is no place.
    static void p04OfNone() {
        Run.rich().found(BEYOND, "at(0, 0)", "at(0, -1)", "at(0, 1)", "at(0, MIN)", "at(0, MAX)");
    }

    // In one of 40 there are places 0 .. 39; the place is told by asked(), whatever int it is.
    static void p04Of40() {
        Run.rich().tells("at(1, 0)", 1, MIN).tells("at(1, 39)", 1, MAX).tells("at(1, 38)", 1, 0)
            .found(BEYOND, "at(1, -1)", "at(1, 40)", "at(1, MIN)", "at(1, MAX)");
    }

    // The first that fits: BAD, NOTHING, BEYOND.
    static void p04Order() {
        Run.rich().bad("at(6, 40)", "at(-1, -1)", "at(MAX, MAX)", "at(MIN, MIN)")
            .found(NOTHING, "at(3, -1)", "at(3, 40)", "at(3, MAX)", "at(3, MIN)");
    }

    // ROWS are 0 .. 5.
    static void p05WhichRow() {
        Run.rich().range("tear(#)", 0, 5);
    }

    // NOTHING: one that is missing, at first or torn.
    static void p05Missing() {
        Run.rich().found(NOTHING, "tear(3)", "tear(5)").due("tear(1)", 1).found(NOTHING, "tear(1)");
    }

    // A ROW of none can be torn, and one of 40.
    static void p05OfNoneAndOf40() {
        Run.rich().due("tear(0)", 1).due("count(6)", 2).due("tear(1)", 1).due("count(6)", 1).rowIs(2, 0, -77, 0)
            .found(NOTHING, "at(0, 0)", "at(1, 0)");
    }

    // A ROW is missing: all six, each by itself.
    static void p05AllSix() {
        Run x = Run.fresh();
        for (int r = 0; r <= 5; r++) {
            x.does("row(" + r + ", 1)");
        }
        for (int r = 0; r <= 5; r++) {
            x.due("count(6)", 6 - r).due("tear(" + r + ")", 1);
        }
        x.isAs(Run.fresh(), "tearing all that was made");
    }

    // ROWS are 0 .. 5, both of them.
    static void p06WhichRows() {
        Run.rich().range("copy(#, 0, 1, 0, 1)", 0, 5).range("copy(1, 0, #, 0, 1)", 0, 5)
            .range("copy(#, 0, #, 0, 1)", 0, 5);
    }

    // SIZE: n below 0.
    static void p06FewerThanNone() {
        Run.rich().found(SIZE, "copy(1, 0, 2, 0, -1)", "copy(1, 0, 2, 0, MIN)", "copy(1, 0, 1, 0, -1)");
    }

    // None: from any place, also just behind the end; nothing changes.
    static void p06None() {
        Run.rich().still("copy(1, 0, 2, 0, 0)", 1).still("copy(1, 40, 2, 3, 0)", 1).still("copy(0, 0, 0, 0, 0)", 1)
            .still("copy(0, 0, 1, 40, 0)", 1).still("copy(2, 3, 0, 0, 0)", 1);
    }

    // BEYOND: a place that there is not, even for none.
    static void p06NoneBeyond() {
        Run.rich().found(BEYOND, "copy(1, 41, 2, 0, 0)", "copy(1, 0, 2, 4, 0)", "copy(1, -1, 2, 0, 0)",
            "copy(1, 0, 2, -1, 0)", "copy(0, 1, 1, 0, 0)", "copy(1, 0, 0, 1, 0)", "copy(1, MAX, 2, 0, 0)",
            "copy(1, 0, 2, MAX, 0)", "copy(1, MIN, 2, 0, 0)", "copy(1, 0, 2, MIN, 0)");
    }

    // All 40 places.
    static void p06All40() {
        int[] due = new int[40];
        due[0] = MIN;
        due[39] = MAX;
        Run.rich().does("row(3, 40)").due("copy(1, 0, 3, 0, 40)", 1).rowIs(3, due).rowIs(1, due);
    }

    // BEYOND: not so many there, by one, on either side.
    static void p06OneTooMany() {
        Run.rich().does("row(3, 40)").found(BEYOND, "copy(1, 0, 3, 0, 41)", "copy(1, 1, 3, 0, 40)",
            "copy(1, 0, 3, 1, 40)", "copy(1, 39, 3, 0, 2)", "copy(1, 0, 3, 39, 2)", "copy(1, 40, 3, 0, 1)",
            "copy(1, 0, 3, 40, 1)");
        Run.rich().found(BEYOND, "copy(1, 37, 2, 0, 4)", "copy(2, 0, 1, 0, 4)", "copy(0, 0, 1, 0, 1)",
            "copy(1, 0, 0, 0, 1)");
    }

    // Just so many there, on either side.
    static void p06JustSoMany() {
        Run.rich().due("copy(1, 37, 2, 0, 3)", 1).rowIs(2, 0, 0, MAX).due("copy(1, 0, 2, 2, 1)", 1).rowIs(2, 0, 0, MIN)
            .due("copy(2, 2, 2, 0, 1)", 1).rowIs(2, MIN, 0, MIN);
    }

    // A place below 0 is BEYOND.
    static void p06Below0() {
        Run.rich().found(BEYOND, "copy(1, -1, 2, 0, 1)", "copy(1, 0, 2, -1, 1)", "copy(1, MIN, 2, 0, 1)",
            "copy(1, 0, 2, MIN, 1)", "copy(1, -1, 2, -1, 2)");
    }

    // BEYOND: also where place and n together run over the greatest int.
    static void p06RunningOver() {
        Run.rich().found(BEYOND, "copy(1, MAX, 2, 0, 1)", "copy(1, 0, 2, MAX, 1)", "copy(1, 1, 2, 0, MAX)",
            "copy(1, MAX, 2, MAX, MAX)", "copy(1, MIN, 2, 0, MAX)", "copy(1, 0, 2, 0, MAX)",
                "copy(2, 2, 2, 2, 2147483646)");
    }

    // NOTHING: either is missing, or both.
    static void p06Missing() {
        Run.rich().found(NOTHING, "copy(3, 0, 1, 0, 1)", "copy(1, 0, 3, 0, 1)", "copy(3, 0, 4, 0, 1)",
            "copy(5, 0, 5, 0, 0)");
    }

    // The first that fits: BAD, SIZE, NOTHING, BEYOND.
    static void p06Order() {
        Run.rich().bad("copy(6, 0, 1, 0, -1)", "copy(1, 0, 6, 0, -1)", "copy(-1, 0, 3, 0, 1)", "copy(3, 0, -1, 0, 1)",
            "copy(6, 99, 1, 0, 1)", "copy(1, 0, 6, 99, 1)")
            .found(SIZE, "copy(3, 0, 1, 0, -1)", "copy(1, 0, 3, 0, -1)", "copy(1, 99, 2, 0, -1)",
                "copy(1, MIN, 2, MIN, MIN)")
            .found(NOTHING, "copy(3, 99, 1, 0, 1)", "copy(1, 0, 3, -1, 1)", "copy(1, 99, 3, 0, 1)",
                "copy(3, 0, 1, 0, MAX)");
    }

    // Perhaps itself, as if taken ahead: up, down, and onto itself.
    static void p06OntoItself() {
        Run x = Run.fresh().does("row(0, 5)");
        for (int i = 0; i < 5; i++) {
            x.does("lay(0, " + i + ", " + (10 + i) + ")");
        }
        x.again().due("copy(0, 0, 0, 1, 4)", 1).rowIs(0, 10, 10, 11, 12, 13);
        x.again().due("copy(0, 1, 0, 0, 4)", 1).rowIs(0, 11, 12, 13, 14, 14);
        x.again().due("copy(0, 0, 0, 3, 2)", 1).rowIs(0, 10, 11, 12, 10, 11);
        x.again().still("copy(0, 0, 0, 0, 5)", 1);
    }

    // All but one place of 40 go up by one, and down by one.
    static void p06OntoItselfOf40() {
        int[] up = new int[40];
        up[0] = MIN;
        up[1] = MIN;
        Run.rich().due("copy(1, 0, 1, 1, 39)", 1).rowIs(1, up);
        int[] down = new int[40];
        down[38] = MAX;
        down[39] = MAX;
        Run.rich().due("copy(1, 1, 1, 0, 39)", 1).rowIs(1, down);
    }

    // ROWS are 0 .. 5.
    static void p07WhichRow() {
        Run.rich().range("mean(#)", 0, 5);
    }

    // NOUGHT: shared among none.
    static void p07OfNone() {
        Run.rich().found(NOUGHT, "mean(0)");
    }

    // NOTHING: missing.
    static void p07Missing() {
        Run.rich().found(NOTHING, "mean(3)", "mean(5)").does("tear(0)").found(NOTHING, "mean(0)");
    }

    private static Run rowOf(int... places) {
        Run x = Run.fresh().does("row(4, " + places.length + ")");
        for (int i = 0; i < places.length; i++) {
            x.does("lay(4, " + i + ", " + places[i] + ")");
        }
        return x;
    }

    // Of one int: itself.
    static void p07OfOne() {
        rowOf(MIN).tells("mean(4)", 1, MIN);
        rowOf(MAX).tells("mean(4)", 1, MAX);
        rowOf(0).does("at(4, 0)").tells("mean(4)", 1, 0);
        rowOf(-1).tells("mean(4)", 1, -1);
    }

    // Of 40: the sum does not run over.
    static void p07Of40() {
        int[] places = new int[40];
        java.util.Arrays.fill(places, MAX);
        rowOf(places).tells("mean(4)", 1, MAX);
        java.util.Arrays.fill(places, MIN);
        rowOf(places).tells("mean(4)", 1, MIN);
        places[0] = MAX;
        rowOf(places).tells("mean(4)", 1, -2040109465);
    }

    // Cut: toward 0 from both sides.
    static void p07Cut() {
        rowOf(3, 4).tells("mean(4)", 1, 3);
        rowOf(-3, -4).tells("mean(4)", 1, -3);
        rowOf(1, 1, 0).tells("mean(4)", 1, 0);
        rowOf(-1, -1, 0).tells("mean(4)", 1, 0);
        rowOf(1, 1, 1).tells("mean(4)", 1, 1);
        rowOf(MIN, MAX).tells("mean(4)", 1, 0);
        rowOf(MAX, 2147483646).tells("mean(4)", 1, 2147483646);
        rowOf(MIN, -2147483647).tells("mean(4)", 1, -2147483647);
    }
}
