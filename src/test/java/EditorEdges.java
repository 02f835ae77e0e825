/** Promises 35 to 38: editors. */
final class EditorEdges {
    private static final int NONE = Run.NONE;

    private static Run sixOnes() {
        return Run.town(Run.SIX_ONES);
    }

    // A set of FACTS, a PAGE.
    static void p35WhichNumbers() {
        Run.rich().range("edit(#, 0)", 0, 255).range("edit(0, #)", 0, 255);
        Run.fresh().range("edit(#, 0)", 0, 255).range("edit(0, #)", 0, 255);
        Run.rich().bad("edit(256, 256)", "edit(-1, -1)", "edit(MIN, MAX)");
    }

    // No FACT is asked for: nobody needs read, whatever is on the PAGE.
    static void p35NoFact() {
        Run.rich().tells("edit(0, 0)", 0, 0).tells("edit(0, 255)", 0, 0);
    }

    // The fewest: nobody, one, all six.
    static void p35FromNobodyToAll() {
        sixOnes().does("agrees(9, 0)").tells("edit(255, 0)", 0, 0).tells("edit(1, 255)", 1, 1)
            .tells("edit(32, 32)", 1, 32)
            .tells("edit(255, 31)", 5, 31).tells("edit(255, 63)", 6, 63).tells("edit(63, 255)", 6, 63);
        Run.rich().tells("edit(255, 133)", 0, 0).tells("edit(255, 132)", 1, 1).tells("edit(9, 8)", 2, 9);
    }

    // NONE: none; nothing is told then.
    static void p35None() {
        sixOnes().does("pages(63)").still("edit(64, 64)", NONE).still("edit(255, 255)", NONE)
            .still("edit(128, 255)", NONE);
        Run.rich().still("edit(2, 2)", NONE).still("edit(255, 0)", NONE);
    }

    // Without PEOPLE: nobody, if they are so YESTERDAY, else none.
    static void p35WithoutPeople() {
        Run.fresh().does("yesterday(129)").tells("edit(255, 129)", 0, 0).tells("edit(1, 255)", 0, 0)
            .still("edit(255, 128)", NONE)
            .still("edit(2, 2)", NONE);
    }

    // Who: the least of alike sets; the fewest go ahead of the least.
    static void p35TheLeast() {
        Run.town("d00000000o0000o0000o0000").tells("edit(1, 1)", 1, 1);
        Run.town("d00000000r1100o0000o0000").tells("edit(1, 1)", 1, 2);
        Run.town("d00000000l1000o2200o0000").tells("edit(1, 1)", 1, 4);
    }

    // A set of readers, a set of FACTS, a PAGE.
    static void p36WhichNumbers() {
        Run.rich().range("choose(#, 0, 0)", 0, 63).range("choose(0, #, 0)", 0, 255).range("choose(0, 0, #)", 0, 255);
        Run.town("d00000000o0000").range("choose(#, 0, 0)", 0, 1);
        Run.fresh().range("choose(#, 0, 0)", 0, 0).range("choose(0, #, 0)", 0, 255).range("choose(0, 0, #)", 0, 255);
        Run.rich().bad("choose(64, 256, 256)", "choose(-1, -1, -1)", "choose(MIN, MAX, MIN)", "choose(2, 256, 0)",
            "choose(2, 0, -1)");
    }

    // The least: of all, of those with the last FACT, the greatest; nobody reads.
    static void p36TheLeast() {
        sixOnes().still("choose(63, 0, 255)", 0).still("choose(63, 32, 32)", 32).still("choose(63, 33, 255)", 33)
            .still("choose(63, 255, 63)", 63).still("choose(63, 255, 0)", 0).still("choose(0, 0, 0)", 0);
        Run.rich().still("choose(1, 0, 0)", 132).still("choose(1, 1, 1)", 133).still("choose(0, 0, 0)", 133);
        Run.fresh().does("yesterday(255)").still("choose(0, 0, 0)", 255).still("choose(0, 255, 255)", 255);
    }

    // NONE: no PAGE with these FACTS so, or none at all.
    static void p36None() {
        sixOnes().does("pages(63)").still("choose(63, 64, 64)", NONE).still("choose(63, 255, 255)", NONE)
            .still("choose(1, 2, 2)", NONE)
            .still("choose(0, 1, 1)", NONE);
        Run.rich().still("choose(2, 0, 0)", NONE).still("choose(63, 0, 0)", NONE);
        Run.fresh().still("choose(0, 1, 1)", NONE);
    }

    // A set of FACTS, a PAGE, a ROW 0 .. 5.
    static void p37WhichNumbers() {
        Run.rich().range("lead(#, 0, 0)", 0, 255).range("lead(0, #, 0)", 0, 255).range("lead(0, 0, #)", 0, 5);
        Run.fresh().range("lead(#, 0, 0)", 0, 255).range("lead(0, #, 0)", 0, 255).range("lead(0, 0, #)", 0, 5);
        Run.rich().bad("lead(256, 256, 6)", "lead(-1, -1, -1)", "lead(MIN, MAX, MIN)");
    }

    // STATE: no PEOPLE; BAD ahead of it.
    static void p37WithoutPeople() {
        Run.fresh().state("lead(0, 0, 0)", "lead(255, 255, 5)", "lead(255, 0, 0)")
            .bad("lead(256, 0, 0)", "lead(0, 256, 0)", "lead(0, 0, 6)", "lead(-1, 0, 0)", "lead(0, -1, 0)",
                "lead(0, 0, -1)");
        Run.rich().writes(0, "d00000000").does("town(0)").state("lead(0, 0, 1)", "lead(1, 1, 3)");
    }

    // 0: they are so YESTERDAY; the ROW is there anew, of none.
    static void p37NoDay() {
        Run.rich().due("lead(255, 149, 1)", 0).rowIs(1).due("lead(0, 255, 2)", 0).rowIs(2).due("lead(128, 255, 3)", 0)
            .rowIs(3)
            .due("count(6)", 4).due("count(2)", 149).due("asked()", -77);
    }

    // One DAY: 1000 times who reads, and THE DAY; a ROW that is missing is there then, one of 40 has one place.
    static void p37OneDay() {
        sixOnes().due("lead(1, 1, 3)", 1).rowIs(3, 1).due("lead(32, 32, 3)", 1).rowIs(3, 5032).due("count(6)", 1);
        Run.rich().due("lead(16, 0, 1)", 1).rowIs(1, 132).due("lead(8, 8, 5)", 1).rowIs(5, 3141).rowIs(1, 132)
            .due("count(6)", 4);
    }

    // The last one reads, the greatest DAY comes.
    static void p37LastAndGreatest() {
        Run.town("d00000011o0010o1110o2210o3310o4410o5500").due("lead(255, 255, 0)", 1).rowIs(0, 5255);
    }

    // The first reads, the least DAY comes: 0.
    static void p37FirstAndLeast() {
        sixOnes().does("yesterday(63)").due("lead(255, 0, 0)", 1).rowIs(0, 0);
    }

    // Nobody: 9, THE DAY by HABITS.
    static void p37Nobody() {
        Run.town("d00000000r0010").due("lead(1, 1, 0)", 1).rowIs(0, 9001);
        Run.town(Run.SIX_REBELS).does("yesterday(63)").due("lead(63, 0, 0)", 1).rowIs(0, 9000);
    }

    // Of alike ways the first by numbers: the first reader, the least DAY, nobody last.
    static void p37TheFirst() {
        Run.town("d00000000o0000o1110").due("lead(2, 2, 0)", 1).rowIs(0, 2).due("lead(3, 3, 0)", 1).rowIs(0, 3);
        Run.town("d00000000r0000o1110").due("lead(2, 2, 0)", 1).rowIs(0, 1002);
        Run.town("d00000000o1000o0000o2210").due("lead(1, 1, 0)", 1).rowIs(0, 1005);
    }

    // One who reads it makes it not so, against the HABIT.
    static void p37AgainstTheHabit() {
        Run.town("d01000000o0000o1110").due("lead(2, 0, 0)", 1).rowIs(0, 1000);
    }

    // By a longer ROW, a greater TOWN before: nothing of them is left.
    static void p37Again() {
        Run x = sixOnes().due("lead(32, 32, 0)", 1).rowIs(0, 5032).due("lead(32, 32, 0)", 1).rowIs(0, 5032);
        x.does("text(3, 0)").writes(0, "d00000000r0000").does("town(0)").still("lead(1, 1, 0)", NONE)
            .still("lead(32, 32, 0)", NONE);
    }

    // NONE: not by 4; the ROW stays as it was, there or missing.
    static void p37None() {
        sixOnes().still("lead(3, 3, 0)", NONE).still("lead(64, 64, 5)", NONE).still("lead(255, 255, 0)", NONE);
        Run.rich().still("lead(2, 2, 1)", NONE).still("lead(64, 64, 3)", NONE).still("lead(9, 8, 0)", NONE);
    }

    // No DAY goes by: behind 40 it leads, too, and changes the ROW alone.
    static void p37Behind40() {
        Run x = Run.rich().does("luck(37, 1)", "yesterday(128)");
        x.again().due("lead(1, 1, 0)", 1).rowIs(0, 133).due("count(1)", 40).due("count(2)", 128).due("asked()", -77)
            .does("row(0, 0)").isAs(x, "lead() and the ROW made anew");
    }

    // Without PEOPLE: YESTERDAY alone, the least DAY and the greatest.
    static void p38WithoutPeople() {
        Run.fresh().does("agrees(9, 0)").tells("reach()", 1, 0).does("yesterday(255)").tells("reach()", 1, 255);
    }

    // YESTERDAY, too: also if no DAY comes to it again.
    static void p38YesterdayToo() {
        sixOnes().does("agrees(9, 0)").tells("reach()", 7, 32).does("yesterday(63)").tells("reach()", 8, 63)
            .does("yesterday(255)").tells("reach()", 8, 255).does("yesterday(192)").tells("reach()", 7, 224);
    }

    // It alone, if nothing else comes.
    static void p38Alone() {
        Run.town(Run.SIX_REBELS).does("agrees(9, 0)").tells("reach()", 1, 0).does("yesterday(1)")
            .tells("reach()", 2, 1);
        Run.town("d11111111o0110").tells("reach()", 1, 255);
    }

    // One who reads it makes it not so, against the HABIT.
    static void p38AgainstTheHabit() {
        Run.town("d01000000o0000o1110").tells("reach()", 3, 3);
    }

    // Asked again it is the same, of the greatest DAY, too.
    static void p38Again() {
        Run x = Run.fresh().does("yesterday(255)").tells("reach()", 1, 255).tells("reach()", 1, 255);
        x.does("yesterday(0)").tells("reach()", 1, 0).does("yesterday(255)").tells("reach()", 1, 255);
        sixOnes().tells("reach()", 7, 32).tells("reach()", 7, 32).writes(0, "d00000000r0000").does("town(0)")
            .tells("reach()", 1, 0);
    }

    // By any DAYS: the 40 that can be PRINTED do not bind it.
    static void p38Behind40() {
        Run.town("d00000000o0000").does("luck(40, 1)", "yesterday(0)").tells("reach()", 2, 1);
        Run.rich().tells("reach()", 4, 149);
    }
}
