/** Promises 12 to 15: PEOPLE, what they tell, HABITS, YESTERDAY. */
final class PeopleEdges {
    private static final int UNLIKE = Run.UNLIKE;

    // PEOPLE are 0, 1, ..: none, 1, 6 of them.
    static void p12WhichOne() {
        Run.rich().range("person(#, 0)", 0, 5);
        Run.town("d00000000o0000").range("person(#, 0)", 0, 0);
        Run.fresh().bad("person(0, 0)", "person(-1, 0)", "person(1, 0)", "person(MAX, 0)", "person(MIN, 0)");
    }

    // 0 .. 5 can be asked.
    static void p12What() {
        Run.rich().range("person(0, #)", 0, 5).range("person(5, #)", 0, 5);
        Run.rich().bad("person(6, 6)", "person(-1, -1)", "person(MIN, MAX)");
    }

    // The least and the greatest of each: KIND 0, 5; WATCHES, DOES 0, 7; HABIT 0, 1; NERVE 0, 6.
    static void p12LeastAndGreatest() {
        Run x = Run.town("d00000000 o0000 f7716 o7000 f0700 o0010 f0006");
        int[][] due = {{0, 0, 0, 0, 0}, {5, 7, 7, 1, 6}, {0, 7, 0, 0, 0}, {5, 0, 7, 0, 0}, {0, 0, 0, 1, 0}, {5, 0, 0, 0,
            6}};
        for (int one = 0; one < 6; one++) {
            for (int what = 0; what < 5; what++) {
                x.again().does("yesterday(5)", "agrees(250, 0)")
                    .tells("person(" + one + ", " + what + ")", 1, due[one][what]);
            }
        }
    }

    // KINDS by letters.
    static void p12Kinds() {
        Run x = Run.town("d00000000o0000r0000s0000g0000l0000f0000");
        for (int one = 0; one < 6; one++) {
            x.due("person(" + one + ", 0)", 1).due("asked()", one);
        }
    }

    // 5: how many PAGES one read, none to 40; reading with others, too; DAYS of nobody don't count.
    static void p12PagesRead() {
        Run x = Run.town("d00000000o0000o1100");
        x.due("person(0, 5)", 1).due("asked()", 0).does("print(0, 0)").due("person(0, 5)", 1).due("asked()", 0);
        for (int day = 0; day < 38; day++) {
            x.does("print(0, 1)");
        }
        x.does("print(0, 3)").due("person(0, 5)", 1).due("asked()", 39).due("person(1, 5)", 1).due("asked()", 1);
        x.does("undo(0)", "luck(40, 7)").due("person(0, 5)", 1);
        long read = x.answer("asked()");
        x.due("person(1, 5)", 1).due("asked()", 40 - read);
    }

    // PAGES read: all 40.
    static void p12AllPagesRead() {
        Run.town("d00000000o0000").does("luck(40, 1)").due("person(0, 5)", 1).due("asked()", 40);
    }

    // PEOPLE are 0, 1, ..
    static void p13WhichOne() {
        Run.rich().range("mark(#, 1)", 0, 5);
        Run.town("d00000000r0000").range("mark(#, 1)", 0, 0);
        Run.fresh().bad("mark(0, 1)", "mark(-1, 1)", "mark(MAX, 1)", "mark(MIN, 1)");
    }

    // BAD: also KIND 0; KINDS are up to 5.
    static void p13WhichKind() {
        for (int one = 0; one < 6; one++) {
            Run.rich().range("mark(" + one + ", #)", 1, 5);
        }
    }

    // UNLIKE: who is not of that KIND; a ONE is of none of them, a SLY one a REBEL, a FOOL a GAMBLER, too.
    static void p13Unlike() {
        String[] kinds = {"", "1", "2", "3", "14", "35"};
        for (int one = 0; one < 6; one++) {
            for (int kind = 1; kind <= 5; kind++) {
                String call = "mark(" + one + ", " + kind + ")";
                if (kinds[one].indexOf('0' + kind) >= 0) {
                    Run.check.due(call + " is refused", Run.rich().answer(call) < 0 ? 1 : 0, 0);
                } else {
                    Run.rich().found(UNLIKE, call);
                }
            }
        }
    }

    // BAD ahead of UNLIKE.
    static void p13BadAheadOfUnlike() {
        Run.rich().bad("mark(0, 0)", "mark(0, 6)", "mark(6, 2)", "mark(-1, 5)", "mark(6, 0)", "mark(MIN, MIN)",
            "mark(MAX, MAX)");
    }

    // A REBEL: how many others DO what that one WATCHES: none (not oneself) to 5; a SLY one, too.
    static void p13Rebel() {
        for (String letter : new String[] {"r", "l"}) {
            Run.town("d00000000" + letter + "3300").still("mark(0, 1)", 0);
            Run.town("d00000000" + letter + "3300o0300o1300s2300g3300f4300").still("mark(0, 1)", 5);
            Run.town("d00000000o0700o1700s2700g3700f4700" + letter + "7000").still("mark(5, 1)", 5);
            Run.town("d00000000" + letter + "3300o3000o3100").still("mark(0, 1)", 0);
        }
    }

    // A STAYER: whether what that one WATCHES is so YESTERDAY (1, 0): the first FACT, the last.
    static void p13Stayer() {
        Run first = Run.town("d00000000s0711");
        first.still("mark(0, 2)", 0).does("yesterday(1)").still("mark(0, 2)", 1).does("yesterday(254)")
            .still("mark(0, 2)", 0);
        Run last = Run.town("d00000001s7011");
        last.still("mark(0, 2)", 1).does("yesterday(127)").still("mark(0, 2)", 0).does("yesterday(255)")
            .still("mark(0, 2)", 1);
    }

    // A GAMBLER: how many others DO the same: none to 5; a FOOL, too.
    static void p13Gambler() {
        for (String letter : new String[] {"g", "f"}) {
            Run.town("d00000000" + letter + "3300").still("mark(0, 3)", 0);
            Run.town("d00000000" + letter + "0300o0300o1300s2300r3300l4300").still("mark(0, 3)", 5);
            Run.town("d00000000o0700o1700s2700r3700l4700" + letter + "0700").still("mark(5, 3)", 5);
            Run.town("d00000000" + letter + "3400o3300o3300").still("mark(0, 3)", 0);
        }
    }

    // A SLY one: by how many PAGES that AGREE with that one reading alone.
    static void p13Sly() {
        Run.town("d00000000l0000").still("mark(0, 4)", 2);
        Run.town("d00000000l0100").still("mark(0, 4)", 1);
        Run.town("d00000000l0000o1010").still("mark(0, 4)", 1);
        Run.town("d11111111r1100s2200g3300o4400o5500l0000").still("mark(5, 4)", 2);
    }

    // A FOOL: what that one DOES, reading that it is not so: as a ONE who reads that it is so, by either HABIT.
    static void p13Fool() {
        Run.town("d00000000f0000").still("mark(0, 5)", 1);
        Run.town("d11111111f0010").still("mark(0, 5)", 1);
        Run.town("d11111111o0000o0000o0000o0000o0000f7700").still("mark(5, 5)", 1);
    }

    // PEOPLE are 0, 1, ..
    static void p14WhichOne() {
        Run.rich().range("habit(#, 1)", 0, 5);
        Run.town("d00000000o0000").range("habit(#, 0)", 0, 0);
        Run.fresh().bad("habit(0, 0)", "habit(-1, 0)", "habit(MAX, 1)", "habit(MIN, 1)");
    }

    // v is 0 or 1.
    static void p14WhichHabit() {
        Run.rich().range("habit(0, #)", 0, 1).range("habit(5, #)", 0, 1);
        Run.rich().bad("habit(6, 2)", "habit(-1, -1)", "habit(MIN, MAX)");
    }

    // What it was; it is that one's HABIT alone.
    static void p14WhatItWas() {
        Run x = Run.rich().due("habit(0, 0)", 1).due("habit(0, 0)", 0).due("habit(0, 1)", 0).due("habit(0, 1)", 1);
        x.due("habit(5, 1)", 0).due("habit(5, 0)", 1).isAs(Run.rich(), "HABITS set and set back");
        x.does("habit(4, 1)").due("day(0, 0)", 133 + 16).due("asked()", -77).due("person(3, 3)", 1).due("asked()", 0)
            .due("person(5, 3)", 1).due("asked()", 0);
    }

    // Kept TOWNS keep theirs.
    static void p14KeptHabits() {
        Run.rich().does("habit(0, 0)", "habit(1, 0)", "on(2)").due("person(0, 3)", 1).due("asked()", 1)
            .due("person(1, 3)", 1).due("asked()", 1);
    }

    // A DAY is 0 .. 255.
    static void p15WhichDay() {
        Run.rich().range("yesterday(#)", 0, 255);
        Run.fresh().range("yesterday(#)", 0, 255);
    }

    // What it was: the least, the greatest.
    static void p15WhatItWas() {
        Run.fresh().due("yesterday(255)", 0).due("count(2)", 255).due("yesterday(0)", 255).due("count(2)", 0)
            .due("yesterday(0)", 0);
        Run.rich().due("yesterday(0)", 149).due("yesterday(149)", 0).isAs(Run.rich(), "YESTERDAY set and set back");
    }

    // It is no DAY that goes by: none is counted, and behind 40 it can be set, too.
    static void p15NoDayGoes() {
        Run.rich().does("luck(37, 1)").due("count(1)", 40).does("yesterday(7)").due("count(1)", 40).due("count(2)", 7);
        Run.fresh().does("yesterday(9)").due("count(1)", 0);
    }
}
