/** Promises 22 to 27: which PAGES AGREE, what is sure, torn PAGES, ODDS. */
final class PageEdges {
    private static final int NOUGHT = Run.NOUGHT, NONE = Run.NONE;

    /** With all six reading, each set of FACTS 0 .. 5 is a PAGE that AGREES: 64 of them, the most there can be. */
    private static Run sixOnes() {
        return Run.town(Run.SIX_ONES);
    }

    /** With all three reading 0, 1 and 3 AGREE. */
    private static Run threePages() {
        return Run.town("d00000000o0000o1000o1100");
    }

    private static void setsOfReaders(String call) {
        Run.rich().range(call, 0, 63);
        Run.town("d00000000o0000").range(call, 0, 1);
        Run.fresh().range(call, 0, 0);
    }

    // A set of readers.
    static void p22WhichReaders() {
        setsOfReaders("pages(#)");
    }

    // How many: none (NONE by asked()), one, two, 64.
    static void p22HowMany() {
        Run.rich().tells("pages(2)", 0, NONE).tells("pages(0)", 1, 133).tells("pages(1)", 2, 132)
            .tells("pages(63)", 0, NONE);
        sixOnes().tells("pages(0)", 1, 0).tells("pages(63)", 64, 0).does("yesterday(255)").tells("pages(63)", 64, 192);
    }

    // The least, as a number: down to 0, up to 255.
    static void p22TheLeast() {
        Run.fresh().does("yesterday(255)").tells("pages(0)", 1, 255).does("yesterday(0)").tells("pages(0)", 1, 0);
        Run.town("d11111111o0010").tells("pages(0)", 1, 255).tells("pages(1)", 2, 254);
    }

    // A set of readers.
    static void p23WhichReaders() {
        setsOfReaders("nth(0, #)");
    }

    // BAD: below 0.
    static void p23Below0() {
        sixOnes().bad("nth(-1, 63)", "nth(MIN, 63)", "nth(-1, 0)");
    }

    // PAGE number 0, 1, ..: the first, the last of 64.
    static void p23FirstAndLast() {
        Run x = sixOnes();
        for (int i = 0; i < 64; i++) {
            x.due("nth(" + i + ", 63)", i);
        }
        x.still("nth(0, 63)", 0).still("nth(63, 63)", 63).still("nth(0, 32)", 0).still("nth(1, 32)", 32)
            .still("nth(0, 0)", 0);
    }

    // NOUGHT: there are not so many.
    static void p23NotSoMany() {
        sixOnes().found(NOUGHT, "nth(64, 63)", "nth(MAX, 63)", "nth(2, 32)", "nth(1, 0)");
        Run.rich().found(NOUGHT, "nth(0, 2)", "nth(MAX, 2)", "nth(2, 1)").still("nth(1, 1)", 133);
        Run.fresh().found(NOUGHT, "nth(1, 0)").still("nth(0, 0)", 0);
    }

    // BAD ahead of NOUGHT.
    static void p23BadAheadOfNought() {
        Run.rich().bad("nth(-1, 2)", "nth(0, 64)", "nth(9, 64)", "nth(9, -1)", "nth(-1, -1)", "nth(MIN, MIN)",
            "nth(MAX, MAX)");
    }

    // A set of readers.
    static void p24WhichReaders() {
        setsOfReaders("sure(#)");
    }

    // NOUGHT: no PAGE; BAD ahead of it.
    static void p24NoPage() {
        Run.rich().found(NOUGHT, "sure(2)", "sure(63)");
        Run.town("d00000000r0000").found(NOUGHT, "sure(1)").bad("sure(2)", "sure(-1)");
    }

    // All of one PAGE: what is so on it, and what is not.
    static void p24OnePage() {
        Run.rich().tells("sure(0)", 133, 122);
        Run.fresh().tells("sure(0)", 0, 255).does("yesterday(255)").tells("sure(0)", 255, 0);
    }

    // Of 64 PAGES: what nobody DOES alone.
    static void p24ManyPages() {
        sixOnes().tells("sure(63)", 0, 192).does("yesterday(255)").tells("sure(63)", 192, 0).does("yesterday(64)")
            .tells("sure(63)", 64, 128);
        Run.rich().tells("sure(1)", 132, 122);
    }

    // Of fewer PAGES behind more of them.
    static void p24Again() {
        sixOnes().tells("sure(63)", 0, 192).tells("sure(0)", 0, 255).tells("sure(63)", 0, 192).does("yesterday(255)")
            .tells("sure(0)", 192, 63);
    }

    // A set of readers, a set of FACTS, a PAGE.
    static void p25WhichNumbers() {
        setsOfReaders("torn(#, 0, 0)");
        Run.rich().range("torn(0, #, 0)", 0, 255).range("torn(0, 0, #)", 0, 255);
        Run.fresh().range("torn(0, #, 0)", 0, 255).range("torn(0, 0, #)", 0, 255);
        Run.rich().bad("torn(64, 256, 256)", "torn(-1, -1, -1)", "torn(MIN, MAX, MIN)");
    }

    // Nothing is seen: all of them, whatever is on the PAGE.
    static void p25NothingSeen() {
        sixOnes().tells("torn(63, 0, 0)", 64, 0).tells("torn(63, 0, 255)", 64, 0);
        Run.fresh().does("yesterday(255)").tells("torn(0, 0, 0)", 1, 255).tells("torn(0, 255, 0)", 0, NONE);
    }

    // All is seen: that PAGE, or none.
    static void p25AllSeen() {
        sixOnes().tells("torn(63, 255, 63)", 1, 63).tells("torn(63, 255, 0)", 1, 0).tells("torn(63, 255, 64)", 0, NONE)
            .tells("torn(63, 255, 255)", 0, NONE);
    }

    // The first FACT is seen, the last; the others on the PAGE do not count.
    static void p25OneSeen() {
        sixOnes().tells("torn(63, 1, 255)", 32, 1).tells("torn(63, 1, 254)", 32, 0).tells("torn(63, 128, 127)", 64, 0)
            .tells("torn(63, 128, 128)", 0, NONE).tells("torn(63, 33, 32)", 16, 32);
    }

    // No PAGE AGREES: none, which is no FINDING.
    static void p25NoPage() {
        Run.rich().tells("torn(2, 0, 0)", 0, NONE).tells("torn(2, 255, 255)", 0, NONE);
    }

    // A set of readers, a set of FACTS, a PAGE.
    static void p26WhichNumbers() {
        setsOfReaders("look(#, 0, 0)");
        Run.rich().range("look(0, #, 0)", 0, 255).range("look(0, 0, #)", 0, 255);
        Run.fresh().range("look(0, #, 0)", 0, 255).range("look(0, 0, #)", 0, 255);
    }

    // Nothing is seen: the first of alike FACTS, by which half of 64 are left.
    static void p26NothingSeen() {
        sixOnes().tells("look(63, 0, 255)", 0, 32).tells("look(63, 1, 0)", 1, 16).tells("look(63, 31, 9)", 5, 1);
        threePages().tells("look(7, 0, 0)", 0, 2);
    }

    // Fewest at most: not the first FACT, if a later one leaves fewer.
    static void p26ALaterOne() {
        Run.town("d00000000o7700o6600").tells("look(3, 0, 0)", 6, 2).tells("look(3, 64, 0)", 7, 1)
            .tells("look(1, 0, 0)", 7, 1);
    }

    // One is left: the first FACT not seen, and one is left then.
    static void p26OneLeft() {
        sixOnes().tells("look(63, 63, 0)", 6, 1).tells("look(0, 0, 0)", 0, 1).tells("look(63, 254, 0)", 0, 1)
            .tells("look(63, 127, 63)", 7, 1).tells("look(63, 191, 63)", 6, 1);
        Run.fresh().tells("look(0, 0, 255)", 0, 1).tells("look(0, 1, 0)", 1, 1);
    }

    // NONE: all are seen; nothing is told then.
    static void p26AllSeen() {
        sixOnes().does("pages(63)").still("look(63, 255, 63)", NONE).still("look(63, 255, 0)", NONE);
        Run.rich().still("look(0, 255, 133)", NONE);
        Run.fresh().still("look(0, 255, 0)", NONE);
    }

    // NOUGHT: none is left, also if all are seen.
    static void p26NoneLeft() {
        sixOnes().found(NOUGHT, "look(63, 64, 64)", "look(63, 255, 64)", "look(63, 255, 128)", "look(0, 1, 1)");
        Run.rich().found(NOUGHT, "look(2, 0, 0)", "look(2, 255, 0)", "look(0, 255, 132)");
    }

    // BAD ahead of NOUGHT and of NONE.
    static void p26BadFirst() {
        Run.rich().bad("look(64, 255, 0)", "look(-1, 255, 0)", "look(2, 256, 0)", "look(2, -1, 0)", "look(2, 0, 256)",
            "look(2, 0, -1)", "look(2, 255, 256)", "look(2, MAX, MIN)");
    }

    // A set of readers.
    static void p27WhichReaders() {
        setsOfReaders("odds(#, 0)");
    }

    // FACTS are 0 .. 7.
    static void p27WhichFact() {
        Run.rich().range("odds(0, #)", 0, 7);
        Run.fresh().range("odds(0, #)", 0, 7);
    }

    // Never so: 0 by 1; always so: 1 by 1; of one PAGE and of 64.
    static void p27NeverAndAlways() {
        Run.fresh().tellsOdds("odds(0, 0)", 0, 1).tellsOdds("odds(0, 7)", 0, 1).does("yesterday(255)")
            .tellsOdds("odds(0, 0)", 1, 1).tellsOdds("odds(0, 7)", 1, 1);
        sixOnes().does("yesterday(64)").tellsOdds("odds(63, 6)", 1, 1).tellsOdds("odds(63, 7)", 0, 1);
    }

    // In lowest terms.
    static void p27LowestTerms() {
        sixOnes().tellsOdds("odds(63, 0)", 1, 2).tellsOdds("odds(63, 5)", 1, 2);
        threePages().tellsOdds("odds(7, 0)", 2, 3).tellsOdds("odds(7, 1)", 1, 3).tellsOdds("odds(7, 2)", 0, 1);
        Run.town("d00000000o0000o1000o1100o2200").tellsOdds("odds(15, 0)", 2, 3).tellsOdds("odds(15, 1)", 1, 3)
            .tellsOdds("odds(15, 2)", 1, 2);
    }

    // NOUGHT: no PAGE; the ODDS told last stay.
    static void p27NoPage() {
        Run.rich().found(NOUGHT, "odds(2, 0)", "odds(63, 7)");
        Run.town("d00000000r0000").found(NOUGHT, "odds(1, 0)");
    }

    // BAD ahead of NOUGHT.
    static void p27BadAheadOfNought() {
        Run.rich().bad("odds(2, 8)", "odds(2, -1)", "odds(64, 0)", "odds(64, 8)", "odds(MIN, MIN)", "odds(MAX, MAX)");
    }
}
