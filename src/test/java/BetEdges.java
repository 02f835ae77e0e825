/** Promises 39 to 42: BETS, DAYS by LOTS. */
final class BetEdges {
    private static final int NONE = Run.NONE;

    // A number is 0 .. 6.
    static void p39WhichNumber() {
        Run.rich().range("bet(#)", 0, 6);
        Run.fresh().range("bet(#)", 0, 6);
    }

    // Without PEOPLE nobody bets.
    static void p39WithoutPeople() {
        Run x = Run.fresh().does("agrees(9, 0)");
        for (int number = 0; number <= 6; number++) {
            x.tells("bet(" + number + ")", 0, 0);
        }
    }

    private static void bets(String signs, int... due) {
        Run x = Run.town("d00000000" + signs).does("agrees(9, 0)");
        for (int number = 0; number <= 6; number++) {
            x.tells("bet(" + number + ")", due[number], due[number] == 0 ? 0 : 1);
        }
    }

    // A ONE bets, if it is no less than one's NERVE: the least, one between, the greatest.
    static void p39One() {
        bets("o0000", 1, 1, 1, 1, 1, 1, 1);
        bets("o0003", 0, 0, 0, 1, 1, 1, 1);
        bets("o0006", 0, 0, 0, 0, 0, 0, 1);
    }

    // A REBEL (SLY one, too), if it is less.
    static void p39RebelAndSly() {
        for (String letter : new String[] {"r", "l"}) {
            bets(letter + "0000", 0, 0, 0, 0, 0, 0, 0);
            bets(letter + "0003", 1, 1, 1, 0, 0, 0, 0);
            bets(letter + "0006", 1, 1, 1, 1, 1, 1, 0);
        }
    }

    // A STAYER never, a GAMBLER (FOOL, too) always: whatever the NERVE.
    static void p39NeverAndAlways() {
        for (int nerve = 0; nerve <= 6; nerve += 6) {
            bets("s000" + nerve, 0, 0, 0, 0, 0, 0, 0);
            bets("g000" + nerve, 1, 1, 1, 1, 1, 1, 1);
            bets("f000" + nerve, 1, 1, 1, 1, 1, 1, 1);
        }
    }

    // All six bet, none of six, the last one alone.
    static void p39AllAndNone() {
        Run.town("d00000000g0000f0000g0006f0006o0000r0006").tells("bet(0)", 63, 6).tells("bet(6)", 31, 5);
        Run.town("d00000000s0000s0006r0000l0000o0006o0005").does("agrees(9, 0)").tells("bet(0)", 0, 0)
            .tells("bet(5)", 32, 1);
    }

    // Without PEOPLE 0 COMES OUT: none bet.
    static void p40WithoutPeople() {
        Run.fresh().tells("numbers()", 1, 1);
    }

    // All seven, none, the first, the last alone.
    static void p40AllAndNone() {
        Run.town("d00000000o0001o0002o0003o0004o0005o0006").tells("numbers()", 127, 7);
        Run.town("d00000000r0001").does("agrees(9, 0)").tells("numbers()", 0, 0);
        Run.town("d00000000s0000s0000s0000s0000s0000s0000").tells("numbers()", 1, 1);
        Run.town("d00000000g0000g0000g0000f0000f0000f0000").tells("numbers()", 64, 1);
        Run.town("d00000000o0000o0000o0000o0000o0000o0006").tells("numbers()", 96, 2);
    }

    // NONE: no PEOPLE; nothing is told then.
    static void p41WithoutPeople() {
        Run.fresh().does("agrees(9, 0)").still("nerve()", NONE);
        Run.rich().writes(0, "d00000000").does("town(0)").still("nerve()", NONE);
    }

    // 0: one does COME OUT; one 0 is told, as none is due.
    static void p41NoneIsDue() {
        Run.rich().tells("nerve()", 0, 0);
        Run.town("d00000000s0000").does("agrees(9, 0)").tells("nerve()", 0, 0);
        Run.town("d00000000o0001o0002o0003o0004o0005o0006").does("agrees(9, 0)").tells("nerve()", 0, 0);
    }

    // NONE: none by one alone; of three, of six.
    static void p41NotByOneAlone() {
        Run.town("d00000000r0002r0002r0002").does("agrees(9, 0)").still("nerve()", NONE);
        Run.town("d00000000o0000o0000o0000r0005r0005r0005").does("agrees(9, 0)").still("nerve()", NONE);
    }

    // The least change: 1, 2, 3; up or down.
    static void p41TheLeast() {
        Run.town("d00000000r0001").does("agrees(9, 0)").tells("nerve()", 1, 0);
        Run.town("d00000000o0003o0003r0002r0002r0002").tells("nerve()", 2, 2);
        Run.town("d00000000o0003o0003r0004r0004r0004").tells("nerve()", 2, 2);
        Run.town("d00000000o0003o0003o0003r0005r0005r0005").tells("nerve()", 3, 3);
        Run.town("d00000000o0004o0004o0004r0002r0002r0002").tells("nerve()", 3, 3);
    }

    // A NERVE is 0 .. 6: changed down to 0, up to 6.
    static void p41DownTo0UpTo6() {
        Run.town("d00000000s0000r0001").tells("nerve()", 1, 1);
        Run.town("d00000000g0001o0005o0000g0005r0006g0006").tells("nerve()", 1, 1);
    }

    // Whose: the first; the least change goes ahead of the first; no NERVE is changed by it.
    static void p41TheFirst() {
        Run.town("d00000000r0002r0002").does("agrees(9, 0)").tells("nerve()", 1, 0);
        Run.town("d00000000o0001r0002").does("agrees(9, 0)").tells("nerve()", 1, 0);
        Run.town("d00000000r0002o0001").does("agrees(9, 0)").tells("nerve()", 1, 0);
        Run.town("d00000000s0000g0000o0000r0003").tells("nerve()", 1, 3);
        Run.town("d00000000o0000r0002").tells("nerve()", 1, 1);
    }

    private static Run one() {
        return Run.town("d00000000o0000");
    }

    // n is 1 .. 40.
    static void p42HowManyDays() {
        one().range("luck(#, 1)", 1, 40);
        Run.town(Run.SIX_ONES).range("luck(#, 1)", 1, 40);
    }

    // A seed is 1 .. 2147483646.
    static void p42WhichSeed() {
        one().range("luck(1, #)", 1, 2147483646);
        Run.rich().range("luck(37, #)", 1, 2147483646);
        Run.rich().bad("luck(0, 0)", "luck(41, -1)", "luck(MIN, MAX)", "luck(MAX, MIN)");
    }

    // STATE: no PEOPLE; BAD ahead of it.
    static void p42WithoutPeople() {
        Run.fresh().state("luck(1, 1)", "luck(40, 2147483646)")
            .bad("luck(0, 1)", "luck(41, 1)", "luck(1, 0)", "luck(1, MAX)", "luck(-1, -1)");
        Run.rich().writes(0, "d00000000").does("town(0)").state("luck(1, 1)");
    }

    // FULL: with n more there would be more than 40; just 40 can be.
    static void p42Full() {
        one().due("luck(40, 1)", 40).due("count(1)", 40).full("luck(1, 1)", "luck(40, 1)");
        one().does("print(0, 0)").full("luck(40, 1)").due("luck(39, 1)", 39).due("count(1)", 40).full("luck(1, 1)");
        one().due("luck(39, 1)", 39).full("luck(2, 1)", "luck(40, 1)").due("luck(1, 1)", 1).full("luck(1, 1)");
        Run.rich().full("luck(38, 1)", "luck(40, 1)").due("luck(37, 2)", 18).due("count(1)", 40);
    }

    // (FULL last.)
    static void p42FullLast() {
        one().does("luck(40, 1)").bad("luck(41, 1)", "luck(0, 1)", "luck(1, 0)", "luck(1, MAX)", "luck(40, -1)",
            "luck(MIN, MIN)");
    }

    // LOTS: 48271, 182605794, 1291394886, 1914720637, ... from seed 1; each by 16, cut, modulo 2 which PAGE.
    static void p42Lots() {
        int[] due = {0, 0, 0, 1, 1, 0};
        for (int n = 1; n <= 6; n++) {
            one().due("luck(" + n + ", 1)", n).due("count(1)", n).due("count(2)", due[n - 1]).due("person(0, 5)", 1)
                .due("asked()", n);
        }
        Run printed = one().does("print(0, 1)", "print(0, 1)", "print(0, 1)", "print(1, 1)");
        one().does("luck(4, 1)").isAs(printed, "luck(4, 1)");
    }

    // The number modulo how many PEOPLE who reads: of six 1, 0, 0, 1, 1, 5.
    static void p42WhoReads() {
        Run printed = Run.town(Run.SIX_ONES).does("print(0, 2)", "print(0, 1)", "print(0, 1)", "print(2, 2)",
            "print(2, 2)", "print(0, 32)");
        Run.town(Run.SIX_ONES).due("luck(6, 1)", 6).isAs(printed, "luck(6, 1)");
    }

    // From the greatest seed: 2147435376, 1964877853; nothing runs over.
    static void p42GreatestSeed() {
        one().due("luck(1, 2147483646)", 1).due("count(2)", 1);
        one().due("luck(2, 2147483646)", 2).due("count(2)", 1964877853 / 16 % 2);
        Run printed = Run.town(Run.SIX_ONES).does("print(1, 1)");
        Run.town(Run.SIX_ONES).due("luck(1, 2147483646)", 1).isAs(printed, "luck(1, 2147483646)");
    }

    // If none does, THE DAY goes by HABITS, nobody reads; how many were PRINTED: none.
    static void p42NonePrinted() {
        Run x = Run.town(Run.SIX_REBELS).does("yesterday(255)").due("luck(40, 5)", 0).due("count(1)", 40)
            .due("count(2)", 192);
        Run printed = Run.town(Run.SIX_REBELS).does("yesterday(255)");
        for (int day = 0; day < 40; day++) {
            printed.does("print(192, 0)");
        }
        x.isAs(printed, "luck(40, 5) by which none was PRINTED");
    }

    // Of PAGES that AGREE just one: it is PRINTED, whatever the number.
    static void p42OnePage() {
        Run printed = Run.town("d10000000o0100").does("print(3, 1)", "print(3, 1)", "print(3, 1)", "print(3, 1)");
        Run.town("d10000000o0100").due("luck(4, 1)", 4).isAs(printed, "luck(4, 1) with one PAGE");
    }

    // How many were PRINTED: some; from seed 1 one 1 (no PAGE AGREES), then one 0 twice.
    static void p42SomePrinted() {
        Run printed = Run.rich().does("print(133, 0)", "print(132, 1)", "print(132, 1)");
        Run.rich().due("luck(3, 1)", 2).isAs(printed, "luck(3, 1)");
    }
}
