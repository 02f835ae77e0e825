/** Promises 28 to 34: who reads. */
final class ReaderEdges {
    private static final int NOUGHT = Run.NOUGHT, NONE = Run.NONE;

    private static Run sixOnes() {
        return Run.town(Run.SIX_ONES);
    }

    private static Run sixRebels() {
        return Run.town(Run.SIX_REBELS);
    }

    // No PEOPLE: none must not; nor in a TOWN of ONES.
    static void p28None() {
        Run.fresh().does("yesterday(9)", "agrees(0, 0)").tells("mustNot()", 0, 0);
        sixOnes().does("agrees(9, 0)").tells("mustNot()", 0, 0);
    }

    // All six; one.
    static void p28AllAndOne() {
        sixRebels().tells("mustNot()", 63, 6);
        Run.town("d00000000r0000").tells("mustNot()", 1, 1);
        Run.town("d00000000o0000o1100o2200o3300o4400r5500").tells("mustNot()", 32, 1);
        Run.rich().tells("mustNot()", 38, 3);
    }

    // No PAGE AGREES with that one reading alone: not, if another one makes it so, or one WATCHES another FACT.
    static void p28Alone() {
        Run.town("d00000000r0000o1010").does("agrees(9, 0)").tells("mustNot()", 0, 0);
        Run.town("d00000000r0100").does("agrees(9, 0)").tells("mustNot()", 0, 0);
        Run.town("d00000000l0000l1100").does("agrees(9, 0)").tells("mustNot()", 0, 0);
    }

    // At least nobody: without PEOPLE, and if none can.
    static void p29Nobody() {
        Run.fresh().does("agrees(9, 0)").tells("most()", 0, 0);
        sixRebels().does("agrees(9, 0)").tells("most()", 0, 0);
    }

    // All six; one of one.
    static void p29All() {
        sixOnes().tells("most()", 6, 63);
        Run.town("d00000000o0000").tells("most()", 1, 1);
        Run.town("d00000000o0000o1100o2200o3300o4400r5500").tells("most()", 5, 31);
        Run.town("d00000000r0000o1100o2200o3300o4400o5500").tells("most()", 5, 62);
    }

    // Who: the least of alike sets; the most go ahead of the least.
    static void p29TheLeast() {
        Run.town("d00000000r2200l0000l1100").tells("most()", 1, 2);
        Run.town("d00000000l0000l1100").tells("most()", 1, 1);
        Run.town("d00000000l0000o1100o2200").tells("most()", 2, 6);
        Run.rich().tells("most()", 2, 9);
    }

    // Whatever is so on that PAGE.
    static void p29WhateverIsSo() {
        Run.town("d11111111o1100o2200").tells("most()", 2, 3);
        Run.town("d00000000o1100o2200").tells("most()", 2, 3);
    }

    // A DAY is 0 .. 255.
    static void p30WhichDay() {
        Run.rich().range("who(#)", 0, 255);
        Run.fresh().range("who(#)", 0, 255);
    }

    // Without PEOPLE: nobody did, if it is as YESTERDAY.
    static void p30Nobody() {
        Run.fresh().tells("who(0)", 0, 1).tells("who(255)", 0, 0).does("yesterday(255)").tells("who(255)", 0, 1)
            .tells("who(0)", 0, 0);
    }

    // None, some, all six can; it can be that nobody did (1), it can't (0).
    static void p30Who() {
        Run.rich().tells("who(133)", 25, 1).tells("who(132)", 1, 0).tells("who(149)", 16, 0).tells("who(0)", 0, 0)
            .tells("who(255)", 0, 0);
        sixOnes().tells("who(0)", 63, 1).tells("who(1)", 1, 0).tells("who(32)", 32, 0).tells("who(3)", 0, 0);
        sixRebels().tells("who(0)", 0, 1).tells("who(1)", 0, 0);
    }

    // A DAY is 0 .. 255.
    static void p31WhichDay() {
        Run.rich().range("sets(#)", 0, 255);
        Run.fresh().range("sets(#)", 0, 255);
    }

    // Without PEOPLE: by nobody, or by none.
    static void p31Nobody() {
        Run.fresh().does("agrees(9, 0)").tells("sets(0)", 1, 0).tells("sets(1)", 0, NONE).tells("sets(255)", 0, NONE);
    }

    // By none (NONE), by one, by all 64 sets.
    static void p31HowMany() {
        sixOnes().tells("sets(63)", 1, 63).tells("sets(0)", 64, 0).tells("sets(64)", 0, NONE)
            .tells("sets(128)", 0, NONE);
        sixOnes().tells("sets(1)", 32, 1).tells("sets(32)", 32, 32).tells("sets(33)", 16, 33);
        sixRebels().tells("sets(0)", 1, 0).tells("sets(63)", 0, NONE);
    }

    // PEOPLE are 0, 1, ..; a DAY is 0 .. 255.
    static void p32WhichNumbers() {
        Run.rich().range("holds(#, 133)", 0, 5).range("holds(0, #)", 0, 255);
        Run.town("d00000000o0000").range("holds(#, 0)", 0, 0);
        Run.fresh().bad("holds(0, 0)", "holds(-1, 0)", "holds(MAX, 0)", "holds(MIN, 0)");
    }

    // All six and nobody: 1 by 7; one alone: 1 by 1; another one: 0 by 1.
    static void p32Odds() {
        sixOnes().tellsOdds("holds(0, 0)", 1, 7).tellsOdds("holds(5, 1)", 0, 1).tellsOdds("holds(5, 0)", 1, 7)
            .tellsOdds("holds(0, 1)", 1, 1).tellsOdds("holds(5, 32)", 1, 1);
        Run.rich().tellsOdds("holds(1, 133)", 0, 1).tellsOdds("holds(4, 133)", 1, 4).tellsOdds("holds(0, 132)", 1, 1);
    }

    // That nobody did alone can be: 0 by 1.
    static void p32NobodyAlone() {
        Run.town("d00000000o0000r1100").tellsOdds("holds(0, 0)", 1, 2).tellsOdds("holds(1, 0)", 0, 1);
        sixRebels().tellsOdds("holds(0, 0)", 0, 1).tellsOdds("holds(5, 0)", 0, 1);
    }

    // NOUGHT: nothing can be; the ODDS told last stay.
    static void p32Nothing() {
        Run.rich().found(NOUGHT, "holds(0, 0)", "holds(5, 255)", "holds(0, 150)");
        sixOnes().found(NOUGHT, "holds(0, 3)", "holds(0, 64)");
    }

    // BAD ahead of NOUGHT.
    static void p32BadAheadOfNought() {
        Run.rich().bad("holds(6, 0)", "holds(-1, 0)", "holds(0, 256)", "holds(0, -1)", "holds(6, 256)",
            "holds(MIN, MAX)");
    }

    // PEOPLE are 0, 1, ..: each of the two.
    static void p33WhichOnes() {
        Run.rich().range("halves(#, 255, 5, 255)", 0, 4).range("halves(0, 255, #, 255)", 1, 5);
        Run.rich().range("halves(#, 0, 0, 0)", 1, 5).range("halves(5, 0, #, 0)", 0, 4);
        Run.town("d00000000o0000o1100").range("halves(#, 1, 1, 2)", 0, 0).range("halves(0, 1, #, 2)", 1, 1);
    }

    // BAD: also one alone.
    static void p33OneAlone() {
        for (int one = 0; one < 6; one++) {
            Run.rich().bad("halves(" + one + ", 255, " + one + ", 255)", "halves(" + one + ", 0, " + one + ", 0)");
        }
        Run.town("d00000000o0000").bad("halves(0, 1, 0, 1)", "halves(0, 1, 1, 1)", "halves(1, 1, 0, 1)");
        Run.fresh().bad("halves(0, 0, 0, 0)", "halves(0, 0, 1, 0)", "halves(-1, 0, -1, 0)");
    }

    // Sets of FACTS.
    static void p33WhichFacts() {
        Run.rich().range("halves(0, #, 3, 0)", 0, 255).range("halves(0, 0, 3, #)", 0, 255)
            .range("halves(0, #, 3, #)", 0, 255);
        Run.rich().bad("halves(6, 256, 6, 256)", "halves(MIN, MIN, MAX, MAX)");
    }

    // Nothing is seen: nobody reads; all is seen: both do.
    static void p33NothingAndAll() {
        Run.rich().tells("halves(0, 0, 3, 0)", 1, 133).tells("halves(0, 255, 3, 255)", 4, 132)
            .tells("halves(0, 255, 1, 255)", 0, NONE)
            .tells("halves(0, 255, 1, 0)", 2, 132).tells("halves(1, 0, 0, 255)", 2, 132)
                .tells("halves(1, 255, 0, 0)", 0, NONE);
    }

    // Who does not see what one WATCHES does not read it: the first FACT, the last.
    static void p33WhatOneWatches() {
        Run x = Run.town("d00000000o0000o7700");
        x.tells("halves(0, 1, 1, 128)", 4, 0).tells("halves(0, 254, 1, 127)", 1, 0).tells("halves(0, 1, 1, 127)", 2, 0)
            .tells("halves(0, 254, 1, 128)", 2, 0).tells("halves(1, 128, 0, 1)", 4, 0)
                .tells("halves(1, 1, 0, 128)", 1, 0);
    }

    // What one WATCHES counts, not what one DOES.
    static void p33NotWhatOneDoes() {
        Run x = Run.town("d00000000o0110o7610");
        x.tells("halves(0, 1, 1, 128)", 1, 0).tells("halves(0, 2, 1, 64)", 1, 66).tells("halves(0, 1, 1, 64)", 1, 64)
            .tells("halves(0, 2, 1, 128)", 1, 2);
    }

    // One who does not read is no other one for a SLY one.
    static void p33SlyOne() {
        Run.town("d00000000l0000o1110").tells("halves(0, 1, 1, 2)", 0, NONE).tells("halves(0, 1, 1, 253)", 2, 2)
            .tells("halves(1, 253, 0, 1)", 2, 2).tells("halves(1, 2, 0, 254)", 2, 0);
    }

    // PEOPLE are 0, 1, ..; a PAGE is 0 .. 255.
    static void p34WhichNumbers() {
        Run.rich().range("spoil(#, 133)", 0, 5).range("spoil(0, #)", 0, 255);
        Run.town("d00000000o0000").range("spoil(#, 0)", 0, 0);
        Run.fresh().bad("spoil(0, 0)", "spoil(-1, 0)", "spoil(MAX, 0)", "spoil(MIN, 0)");
    }

    // STATE: it does not AGREE; BAD ahead of it.
    static void p34DoesNotAgree() {
        Run.rich().state("spoil(0, 134)", "spoil(1, 133)", "spoil(1, 135)", "spoil(5, 0)", "spoil(0, 149)")
            .bad("spoil(6, 0)", "spoil(-1, 0)", "spoil(0, 256)", "spoil(0, -1)", "spoil(MIN, MAX)");
    }

    // One could, if nobody else makes it so: of what is so, and of what is not.
    static void p34Could() {
        Run.rich().still("spoil(0, 133)", 1).still("spoil(0, 132)", 1).still("spoil(3, 141)", 1)
            .still("spoil(4, 133)", 1);
        Run.town("d00000000o7700o0700o0700o0700o0700o0700").still("spoil(0, 0)", 1).still("spoil(0, 128)", 1)
            .still("spoil(5, 0)", 1);
    }

    // One could not, if another one makes it so, too: the first, the last of six.
    static void p34CouldNot() {
        Run.town("d00000000o0000o1010").still("spoil(0, 1)", 0).state("spoil(0, 0)").still("spoil(1, 0)", 1);
        Run.town("d00000000o1710o0700o0700o0700o0700o0700").still("spoil(5, 128)", 0);
        Run.town("d00000000o0700o0700o0700o0700o0700o1710").still("spoil(0, 128)", 0);
    }
}
