/** Promises 16 to 21: THE DAY, PAGES that AGREE, DAYS PRINTED and undone, TOWNS kept. */
final class DayEdges {
    private static final int NOTHING = Run.NOTHING;

    private static Run one() {
        return Run.town("d00000000o0000");
    }

    /** A TOWN of two ONES behind 40 DAYS: 0 read all, 1 the last one, too. */
    private static Run behind40() {
        Run x = Run.town("d00000000o0000o1100");
        for (int day = 1; day < 40; day++) {
            x.does("print(" + day % 2 + ", 1)");
        }
        return x.does("print(3, 3)");
    }

    // A PAGE is a set of FACTS 0 .. 7.
    static void p16WhichPage() {
        Run.rich().range("day(#, 0)", 0, 255).range("day(#, 63)", 0, 255);
        Run.fresh().range("day(#, 0)", 0, 255);
    }

    // A set of PEOPLE, none to 6.
    static void p16WhichReaders() {
        Run.rich().range("day(0, #)", 0, 63);
        one().range("day(0, #)", 0, 1);
        Run.fresh().range("day(0, #)", 0, 0);
        Run.rich().bad("day(256, 64)", "day(-1, -1)", "day(MIN, MAX)", "day(0, 255)");
    }

    /** THE DAY's FACT 7 of one who WATCHES FACT 0 and DOES 7: by HABITS 0 and 1, told so, told not so. */
    private static void deeds(String letter, String others, int readers, String due) {
        for (int habit = 0; habit < 2; habit++) {
            Run x = Run.town("d10101010" + letter + "07" + habit + "0" + others);
            x.still("day(1, " + readers + ")", 85 + 128 * (due.charAt(habit) - '0'));
            x.still("day(254, " + readers + ")", 85 + 128 * (due.charAt(2 + habit) - '0'));
        }
    }

    // Who does not read DOES by HABIT, of each KIND, whatever is on the PAGE.
    static void p16ByHabit() {
        for (String letter : new String[] {"o", "r", "s", "g", "l", "f"}) {
            deeds(letter, "", 0, "0101");
            deeds(letter, "s3100", 2, "0101");
        }
    }

    // A ONE just if it is so.
    static void p16One() {
        deeds("o", "", 1, "1100");
        deeds("o", "s3100", 3, "1100");
    }

    // A REBEL just if it is not.
    static void p16Rebel() {
        deeds("r", "", 1, "0011");
        deeds("r", "s3100", 3, "0011");
    }

    // A STAYER not, if it is so, else by HABIT.
    static void p16Stayer() {
        deeds("s", "", 1, "0001");
        deeds("s", "s3100", 3, "0001");
    }

    // A GAMBLER, if it is so, else by HABIT.
    static void p16Gambler() {
        deeds("g", "", 1, "1101");
        deeds("g", "s3100", 3, "1101");
    }

    // A SLY one as a REBEL, if other ones read, too, else as a ONE.
    static void p16Sly() {
        deeds("l", "", 1, "1100");
        deeds("l", "s3100", 1, "1100");
        deeds("l", "s3100", 3, "0011");
        deeds("l", "s3100s3100s3100s3100s3100", 1, "1100");
        deeds("l", "s3100s3100s3100s3100s3100", 33, "0011");
        deeds("l", "s3100s3100s3100s3100s3100", 63, "0011");
    }

    // The last of six SLY ones: one who reads ahead of that one is another, too.
    static void p16SlyLast() {
        Run x = Run.town("d00000000s3100s3100s3100s3100s3100l0700");
        x.still("day(1, 32)", 128).still("day(254, 32)", 0).still("day(1, 33)", 0).still("day(254, 33)", 128);
    }

    // A FOOL by HABIT, if it is so, else just as a ONE who reads that it is so.
    static void p16Fool() {
        deeds("f", "", 1, "0111");
        deeds("f", "s3100", 3, "0111");
    }

    // Each FACT can be watched, and done.
    static void p16EachFact() {
        for (int fact = 0; fact < 8; fact++) {
            Run watches = Run.town("d00000000o" + fact + "" + (7 - fact) + "00");
            watches.due("day(" + (1 << fact) + ", 1)", 1 << 7 - fact).due("day(" + (255 - (1 << fact)) + ", 1)", 0);
        }
    }

    // A FACT that somebody DOES is so, if one who DOES it makes it so: one of 2, the first or the last of 6.
    static void p16OneMakesItSo() {
        Run.town("d01000000o0110o0100").still("day(0, 0)", 2).still("day(0, 1)", 0).still("day(1, 1)", 2)
            .still("day(0, 2)", 2);
        Run six = Run.town("d11111111o0100o0100o0100o0100o0100o0100");
        six.still("day(0, 0)", 253).still("day(1, 1)", 255).still("day(1, 32)", 255).still("day(0, 63)", 253);
    }

    // Each other one as it is YESTERDAY, whatever is on the PAGE; without PEOPLE: all.
    static void p16AsYesterday() {
        Run x = Run.fresh();
        x.still("day(0, 0)", 0).still("day(255, 0)", 0).does("yesterday(255)").still("day(0, 0)", 255)
            .still("day(255, 0)", 255);
        one().does("yesterday(255)").still("day(0, 0)", 254).still("day(0, 1)", 254).still("day(1, 1)", 255);
    }

    // A PAGE, a set.
    static void p17WhichPageAndReaders() {
        Run.rich().range("agrees(#, 0)", 0, 255).range("agrees(0, #)", 0, 63);
        one().range("agrees(0, #)", 0, 1);
        Run.fresh().range("agrees(#, 0)", 0, 255).range("agrees(0, #)", 0, 0);
        Run.rich().bad("agrees(256, 64)", "agrees(-1, -1)", "agrees(MIN, MAX)");
    }

    // It AGREES (1): no FACT is otherwise.
    static void p17Agrees() {
        Run.rich().tells("agrees(133, 0)", 1, 0).tells("agrees(132, 1)", 1, 0).tells("agrees(133, 25)", 0, 16);
        Run.fresh().does("yesterday(255)").tells("agrees(255, 0)", 1, 0);
    }

    // It does not (0): one FACT, the first, the last; all of them.
    static void p17Otherwise() {
        Run.fresh().tells("agrees(1, 0)", 0, 1).tells("agrees(128, 0)", 0, 128).tells("agrees(255, 0)", 0, 255)
            .does("yesterday(255)").tells("agrees(0, 0)", 0, 255).tells("agrees(254, 0)", 0, 1);
        Run.town("d00000000r0000").tells("agrees(0, 1)", 0, 1).tells("agrees(1, 1)", 0, 1);
    }

    // A PAGE, a set.
    static void p18WhichPageAndReaders() {
        Run.rich().range("print(#, 0)", 0, 255).range("print(133, #)", 0, 63);
        one().range("print(0, #)", 0, 1);
        Run.fresh().range("print(#, 0)", 0, 255).range("print(0, #)", 0, 0);
    }

    // STATE: no PEOPLE.
    static void p18Nobody() {
        Run.fresh().state("print(0, 0)", "print(1, 0)");
        Run.fresh().writes(0, "d11111111").does("town(0)").state("print(255, 0)");
    }

    // STATE: it does not AGREE.
    static void p18DoesNotAgree() {
        Run.rich().state("print(132, 0)", "print(0, 0)", "print(255, 63)", "print(133, 2)", "print(135, 2)");
    }

    // That DAY goes by, and is YESTERDAY then; those who read it have read one PAGE more; how many DAYS went.
    static void p18GoesBy() {
        Run x = Run.rich().due("print(133, 9)", 4).due("count(1)", 4).due("count(2)", 133).due("asked()", -77);
        int[] read = {2, 0, 0, 1, 1, 0};
        for (int one = 0; one < 6; one++) {
            x.due("person(" + one + ", 5)", 1).due("asked()", read[one]);
        }
        x.due("count(8)", 2).due("undo(3)", 1);
    }

    // To nobody, and to all six.
    static void p18NobodyAndAllRead() {
        Run x = Run.town(Run.SIX_ONES).due("print(0, 0)", 1).due("print(63, 63)", 2).due("count(2)", 63);
        for (int one = 0; one < 6; one++) {
            x.due("person(" + one + ", 5)", 1).due("asked()", 1);
        }
    }

    // FULL: 40 DAYS; the 40th goes.
    static void p18Full() {
        Run x = one();
        for (int day = 1; day <= 40; day++) {
            x.due("print(" + day % 2 + ", 1)", day);
        }
        x.full("print(0, 1)", "print(1, 1)", "print(0, 0)").due("count(1)", 40);
    }

    // BAD, then STATE. (FULL last.)
    static void p18Order() {
        behind40().bad("print(256, 0)", "print(-1, 0)", "print(0, 4)", "print(0, -1)", "print(MAX, MIN)")
            .state("print(1, 0)", "print(4, 3)", "print(255, 0)").full("print(0, 0)", "print(1, 1)");
        Run.fresh().bad("print(256, 0)", "print(0, 1)", "print(-1, -1)");
        Run.rich().bad("print(256, 2)", "print(0, 64)", "print(MIN, 0)", "print(0, MAX)");
    }

    // Behind one that is undone, one more can go.
    static void p18RoomAgain() {
        behind40().full("print(0, 0)").due("undo(39)", 1).due("print(0, 0)", 40).full("print(0, 0)").due("undo(0)", 40)
            .due("print(0, 0)", 1);
    }

    // DAYS from number n on, 0 to how many went; BAD beyond.
    static void p19WhichDay() {
        Run.rich().range("undo(#)", 0, 3);
        Run.fresh().range("undo(#)", 0, 0);
        one().range("undo(#)", 0, 0);
        behind40().range("undo(#)", 0, 40);
    }

    // How many: none, one, all.
    static void p19HowMany() {
        Run.rich().still("undo(3)", 0).due("undo(2)", 1).due("undo(0)", 2).still("undo(0)", 0).bad("undo(1)");
        behind40().due("undo(40)", 0).due("undo(39)", 1).due("undo(1)", 38).due("undo(0)", 1).due("count(1)", 0);
        behind40().due("undo(0)", 40).due("count(1)", 0);
        Run.fresh().still("undo(0)", 0);
    }

    // None undone: YESTERDAY stays, also if it was set behind the last DAY.
    static void p19NoneUndone() {
        Run.rich().does("yesterday(77)").still("undo(3)", 0).due("count(2)", 77);
        Run.fresh().does("yesterday(77)").still("undo(0)", 0).due("count(2)", 77);
    }

    // YESTERDAY as ahead of it, also if it was set between DAYS.
    static void p19Yesterday() {
        Run.rich().due("undo(2)", 1).due("count(2)", 132).due("undo(1)", 1).due("count(2)", 132).due("undo(0)", 1)
            .due("count(2)", 129);
        Run.rich().due("undo(1)", 2).due("count(2)", 132);
        Run.rich().due("undo(0)", 3).due("count(2)", 129);
        Run.rich().does("yesterday(3)").due("undo(2)", 1).due("count(2)", 132);
    }

    // PAGES read as ahead of it.
    static void p19PagesRead() {
        Run x = Run.rich().due("undo(1)", 2);
        for (int one = 0; one < 6; one++) {
            x.due("person(" + one + ", 5)", 1).due("asked()", 0);
        }
        behind40().does("undo(39)").due("person(0, 5)", 1).due("asked()", 39).due("person(1, 5)", 1).due("asked()", 0);
        behind40().does("undo(0)").due("person(0, 5)", 1).due("asked()", 0).due("person(1, 5)", 1).due("asked()", 0);
    }

    // HABITS stay.
    static void p19HabitsStay() {
        Run.rich().does("habit(0, 0)", "habit(5, 1)", "undo(0)").due("person(0, 3)", 1).due("asked()", 0)
            .due("person(5, 3)", 1).due("asked()", 1).due("person(1, 3)", 1).due("asked()", 0);
    }

    // DAYS by LOTS, too, those that nobody read as well.
    static void p19DaysByLots() {
        Run.rich().does("luck(37, 1)").due("undo(3)", 37).isAs(Run.rich(), "undoing what luck() did");
        Run.town(Run.SIX_REBELS).does("yesterday(63)").due("luck(40, 3)", 0).due("undo(1)", 39).due("count(2)", 0)
            .due("undo(0)", 1).due("count(2)", 63);
    }

    // Kept TOWNS stay.
    static void p19KeptStay() {
        Run.rich().does("undo(0)").due("on(2)", 2).due("count(2)", 132).due("undo(1)", 1).due("on(0)", 1)
            .due("count(2)", 133);
    }

    // A place 0 .. 2.
    static void p20WhichPlace() {
        Run.rich().range("keep(#)", 0, 2);
        one().range("keep(#)", 0, 2);
    }

    // STATE: no PEOPLE; BAD ahead of it.
    static void p20Nobody() {
        Run.fresh().state("keep(0)", "keep(2)").bad("keep(3)", "keep(-1)", "keep(MAX)", "keep(MIN)");
        Run.rich().writes(0, "d00000000").does("town(0)").state("keep(0)", "keep(1)", "keep(2)");
    }

    // How many DAYS: none, 40; all three places.
    static void p20HowManyDays() {
        one().due("keep(0)", 0).due("count(8)", 1).due("keep(1)", 0).due("count(8)", 2).due("keep(2)", 0)
            .due("count(8)", 3);
        behind40().due("keep(0)", 40).due("undo(0)", 40).due("keep(2)", 0).due("on(0)", 40).due("count(1)", 40)
            .due("on(2)", 0);
    }

    // A place that is taken takes the TOWN anew.
    static void p20Anew() {
        Run.rich().due("keep(0)", 3).due("count(8)", 2).does("undo(0)").due("on(0)", 3).due("count(2)", 149);
    }

    // Keeping changes nothing of the TOWN, and what comes behind it nothing of what is kept.
    static void p20IsKept() {
        Run kept = Run.rich().does("keep(1)");
        Run changed = Run.rich().does("keep(1)", "undo(0)", "print(141, 8)", "yesterday(128)", "print(149, 16)",
            "print(133, 8)", "habit(0, 0)", "yesterday(255)", "on(1)");
        changed.isAs(kept, "on(1) behind changes");
    }

    // A place 0 .. 2.
    static void p21WhichPlace() {
        Run.rich().range("on(#)", 0, 2);
        Run.fresh().range("on(#)", 0, 2);
    }

    // NOTHING: a kept TOWN that is missing, also without PEOPLE.
    static void p21Missing() {
        Run.rich().found(NOTHING, "on(1)");
        Run.fresh().found(NOTHING, "on(0)", "on(1)", "on(2)");
    }

    // BAD ahead of NOTHING.
    static void p21BadAheadOfNothing() {
        Run.fresh().bad("on(3)", "on(-1)", "on(MAX)", "on(MIN)");
    }

    // As it was kept, again and again: YESTERDAY, HABITS, DAYS, PAGES read.
    static void p21AsItWasKept() {
        for (int time = 0; time < 2; time++) {
            Run x = Run.rich().due("on(2)", 2).due("count(1)", 2).due("count(2)", 132);
            for (int more = 0; more < time; more++) {
                x.does("habit(1, 0)", "undo(0)", "yesterday(9)").due("on(2)", 2);
            }
            x.due("person(1, 3)", 1).due("asked()", 1).due("person(0, 5)", 1).due("asked()", 1).due("person(4, 5)", 1)
                .due("asked()", 0).due("undo(1)", 1).due("count(2)", 132).due("undo(0)", 1).due("count(2)", 129);
        }
    }

    // ROWS, TEXTS, other kept TOWNS and what was told stay.
    static void p21TheRestStays() {
        Run.rich().due("on(0)", 1).due("asked()", -77).due("upper()", 1).due("lower()", 4).due("finding()", 3)
            .due("count(6)", 3)
            .due("count(7)", 3).due("count(8)", 2).due("on(2)", 2).due("on(0)", 1);
    }

    // With its 40 DAYS: none more can go.
    static void p21WithItsDays() {
        behind40().does("keep(2)", "undo(0)").due("print(0, 0)", 1).due("on(2)", 40).full("print(0, 0)")
            .state("print(1, 0)");
    }

    // All 40 DAYS are as they were kept, the last one, too: who read, and YESTERDAY ahead of each.
    static void p21All40Days() {
        Run kept = behind40().does("keep(0)");
        Run other = behind40().does("keep(0)", "undo(0)");
        for (int day = 0; day < 40; day++) {
            other.does("yesterday(" + (4 * day + 3) + ")", "print(" + (4 * day) + ", 2)");
        }
        other.due("on(0)", 40).isAs(kept, "on(0) behind 40 other DAYS");
    }

    // Kept TOWNS go with a new one, so none can be gone on from.
    static void p21GoneWithTheTown() {
        Run.rich().does("keep(1)", "town(3)").found(NOTHING, "on(0)", "on(1)", "on(2)");
    }
}
