/** Promises 8 to 11: TEXTS, their FAULTS, TOWNS. */
final class TextEdges {
    private static final int NOTHING = Run.NOTHING, BEYOND = Run.BEYOND, SIZE = Run.SIZE, NONE = Run.NONE;
    private static final String LETTERS = "orsglf";
    private static final String SIX = "d00000000o7716r0000s7716g0000l7716f0000";

    // TEXTS are 0 .. 3.
    static void p08WhichText() {
        Run.rich().range("text(#, 3)", 0, 3);
        Run.fresh().range("text(#, 3)", 0, 3);
    }

    /** A TEXT is blanks alone, so many. */
    private static void blanks(Run x, int t, int n) {
        for (int i = 0; i < n; i++) {
            x.again().due("put(" + t + ", " + i + ", 65)", 1032);
        }
        x.again().found(BEYOND, "put(" + t + ", " + n + ", 65)");
    }

    // A TEXT is there with n blanks: none at least.
    static void p08OfNone() {
        Run x = Run.rich().due("text(2, 0)", 0).due("count(7)", 4).due("text(1, 0)", 0).due("count(7)", 4);
        blanks(x, 2, 0);
        blanks(x, 1, 0);
    }

    // 80 at most.
    static void p08Of80() {
        Run x = Run.fresh().due("text(0, 80)", 80).due("count(7)", 1);
        blanks(x, 0, 80);
    }

    // BAD: also n above 80.
    static void p08Above80() {
        Run.rich().bad("text(1, 81)", "text(1, MAX)", "text(2, 81)", "text(2, MAX)");
    }

    // SIZE: below 0.
    static void p08Below0() {
        Run.rich().found(SIZE, "text(1, -1)", "text(1, MIN)", "text(2, -1)", "text(2, MIN)");
    }

    // The first that fits: BAD ahead of a FINDING.
    static void p08BadAheadOfSize() {
        Run.rich().bad("text(4, -1)", "text(-1, -1)", "text(MIN, MIN)", "text(MAX, MIN)", "text(-1, 81)",
            "text(4, MAX)");
    }

    // Blanks, also where another TEXT stood there.
    static void p08Anew() {
        Run x = Run.rich().due("text(1, 80)", 80);
        blanks(x, 1, 80);
        blanks(Run.rich().does("text(1, 79)", "text(1, 80)"), 1, 80);
    }

    // It is that TEXT alone; the TOWN that was by it stays.
    static void p08TheOthersStay() {
        Run.rich().does("text(3, 80)").due("put(1, 79, 1)", 944).due("count(0)", 6).due("count(1)", 3)
            .due("count(8)", 2);
    }

    // TEXTS are 0 .. 3.
    static void p09WhichText() {
        Run.rich().range("put(#, 0, 5)", 0, 3);
    }

    // NOTHING: a TEXT that is missing.
    static void p09Missing() {
        Run.rich().found(NOTHING, "put(2, 0, 1)");
        Run.fresh().found(NOTHING, "put(0, 0, 1)", "put(3, 0, 1)");
    }

    // BEYOND: in a TEXT of none there is no place.
    static void p09OfNone() {
        Run.rich().found(BEYOND, "put(0, 0, 1)", "put(0, -1, 1)", "put(0, 1, 1)", "put(0, MIN, 1)", "put(0, MAX, 1)");
    }

    // In one of 80 there are places 0 .. 79.
    static void p09Of80() {
        Run.rich().due("put(1, 0, 65)", 1032).due("put(1, 0, 66)", 1065).due("put(1, 79, 67)", 944)
            .due("put(1, 79, 68)", 1067)
            .due("put(1, 78, 69)", 1032).due("asked()", -77)
            .found(BEYOND, "put(1, -1, 1)", "put(1, 80, 1)", "put(1, MIN, 1)", "put(1, MAX, 1)");
    }

    // The first that fits: BAD, NOTHING, BEYOND.
    static void p09Order() {
        Run.rich().bad("put(4, 80, 1)", "put(-1, -1, 1)", "put(MAX, MAX, 1)", "put(MIN, MIN, MIN)")
            .found(NOTHING, "put(2, -1, 1)", "put(2, 80, 1)", "put(2, MAX, 1)", "put(2, MIN, 1)");
    }

    // v is cut to a byte, -128 .. 127; what it was, and 1000 more.
    static void p09CutToAByte() {
        int[] given = {127, 128, -128, -129, 255, 256, -1, 0, Run.MAX, Run.MIN, 383, 384, -256, 65536 + 7};
        int[] cut = {127, -128, -128, 127, -1, 0, -1, 0, -1, 0, 127, -128, 0, 7};
        for (int i = 0; i < given.length; i++) {
            Run.rich().due("put(1, 5, " + given[i] + ")", 1032).due("put(1, 5, 1)", 1000 + cut[i]);
        }
    }

    // TEXTS are 0 .. 3.
    static void p10WhichText() {
        Run.rich().range("fault(#)", 0, 3);
    }

    // NOTHING: missing.
    static void p10Missing() {
        Run.rich().found(NOTHING, "fault(2)");
        Run.fresh().found(NOTHING, "fault(0)", "fault(3)");
    }

    private static void fault(String signs, int due) {
        Run.check.due("fault of '" + signs + "'", Run.fresh().writes(2, signs).answer("fault(2)"), due);
    }

    // NONE: there is none; whatever it is, nothing is changed, and the TOWN stays.
    static void p10ChangesNothing() {
        Run.rich().still("fault(3)", NONE).still("fault(1)", 79).still("fault(0)", 0);
    }

    // The TEXT's size, if there are blanks alone: of none to 80.
    static void p10BlanksAlone() {
        for (int n = 0; n <= 80; n++) {
            fault(" ".repeat(n), n);
        }
    }

    // The TEXT's size, if its end comes too early: within any item.
    static void p10EndTooEarly() {
        for (int n = 1; n <= SIX.length(); n++) {
            boolean behindAnItem = n >= 9 && (n - 9) % 5 == 0;
            fault(SIX.substring(0, n), behindAnItem ? NONE : n);
            fault("  " + SIX.substring(0, n), behindAnItem ? NONE : n + 2);
        }
    }

    // A TOWN without PEOPLE is d and its figures alone; one with 6 is full.
    static void p10NobodyAndSix() {
        fault("d00000000", NONE);
        fault("d11111111", NONE);
        fault(" d00000000 ", NONE);
        fault(SIX, NONE);
    }

    // Blanks ahead, between, behind as many as wanted: none, and all there is room for.
    static void p10BlanksAsManyAsWanted() {
        fault(" ".repeat(41) + SIX, NONE);
        fault(SIX + " ".repeat(41), NONE);
        for (int behind = 9; behind < SIX.length(); behind += 5) {
            fault(SIX.substring(0, behind) + " ".repeat(41) + SIX.substring(behind), NONE);
        }
        fault(" ".repeat(71) + "d00000000", NONE);
        fault("d00000000" + " ".repeat(71), NONE);
        fault("d00000000" + " ".repeat(66) + "o0000", NONE);
    }

    // None within items: a blank there is the FAULT.
    static void p10BlankWithin() {
        for (int place = 1; place < SIX.length(); place++) {
            boolean within = place < 9 || (place - 9) % 5 != 0;
            if (within) {
                fault(SIX.substring(0, place) + " " + SIX.substring(place), place);
            }
        }
    }

    // A blank is 32 and no other byte.
    static void p10OtherBlanks() {
        for (int sign : new int[] {0, 9, 10, 13, 31, 33, 160, 255}) {
            fault((char) sign + "d00000000", 0);
            fault("d00000000" + (char) sign, 9);
            fault("d00000000o0000" + (char) sign + "o0000", 14);
        }
    }

    // d (100): any other sign is the FAULT (behind a blank more: the first figure).
    static void p10EachSignForD() {
        for (int sign = 0; sign < 256; sign++) {
            fault("  " + (char) sign + "00000000", sign == 'd' ? NONE : sign == ' ' ? 3 : 2);
        }
    }

    // Eight figures 0 or 1.
    static void p10EachSignForYesterday() {
        for (int place = 1; place <= 8; place++) {
            for (int sign = 0; sign < 256; sign++) {
                StringBuilder signs = new StringBuilder("d01010101");
                signs.setCharAt(place, (char) sign);
                fault(signs.toString(), sign == '0' || sign == '1' ? NONE : place);
            }
        }
    }

    // Neither seven nor nine.
    static void p10SevenAndNineFigures() {
        fault("d0000000", 8);
        fault("d0000000 o0000", 8);
        fault("d0000000o0000", 8);
        fault("d000000000", 9);
        fault("d00000000 0", 10);
        fault("d000000001", 9);
    }

    // KINDS and letters: o, r, s, g, l, f.
    static void p10EachSignForALetter() {
        for (int sign = 0; sign < 256; sign++) {
            boolean letter = LETTERS.indexOf(sign) >= 0;
            fault("d00000000 " + (char) sign + "0000", letter ? NONE : sign == ' ' ? 11 : 10);
            fault("d00000000" + (char) sign + "0000", letter ? NONE : sign == ' ' ? 10 : 9);
        }
    }

    private static void eachSignForFigure(int which, int last) {
        for (int sign = 0; sign < 256; sign++) {
            StringBuilder signs = new StringBuilder("d00000000 o0000 f0000");
            signs.setCharAt(10 + which, (char) sign);
            fault(signs.toString(), sign >= '0' && sign <= '0' + last ? NONE : 10 + which);
            signs = new StringBuilder(SIX);
            signs.setCharAt(34 + which, (char) sign);
            fault(signs.toString(), sign >= '0' && sign <= '0' + last ? NONE : 34 + which);
        }
    }

    // What one WATCHES: 0 .. 7.
    static void p10EachSignForWatches() {
        eachSignForFigure(1, 7);
    }

    // What one DOES: 0 .. 7.
    static void p10EachSignForDoes() {
        eachSignForFigure(2, 7);
    }

    // The HABIT: 0, 1.
    static void p10EachSignForHabit() {
        eachSignForFigure(3, 1);
    }

    // The NERVE: 0 .. 6.
    static void p10EachSignForNerve() {
        eachSignForFigure(4, 6);
    }

    // One figure each: a second one is no letter.
    static void p10OneFigureEach() {
        fault("d00000000 o00000", 15);
        fault("d00000000 o0000 0", 16);
    }

    // A seventh one: the letter, whatever it is and whatever comes behind it.
    static void p10ASeventh() {
        fault(SIX + "o0000", 39);
        fault(SIX + " o0000", 40);
        fault(SIX + "   o", 42);
        fault(SIX + "?", 39);
        fault(SIX + " 0", 40);
        fault(SIX + " d00000000", 40);
        fault(SIX + " ".repeat(40) + "o", 79);
    }

    // The first place at which it can't go on so, where there are several.
    static void p10TheFirstOfSeveral() {
        fault("x0000000 q", 0);
        fault("d00200000 o9999", 3);
        fault("d00000000 o9929", 11);
        fault("d00000000 o0929", 12);
        fault("d00000000 o0029", 13);
        fault("d00000000 o0000 x y", 16);
        fault("d00000009o0000o0000o0000o0000o0000o0000o0000", 8);
    }

    // The last place of 80, and the end behind it.
    static void p10TheLastOf80() {
        fault("d00000000" + " ".repeat(70) + "x", 79);
        fault("d00000000" + " ".repeat(70) + "o", 80);
        fault("d00000000" + " ".repeat(67) + "o000", 80);
        fault("d00000000" + " ".repeat(66) + "o0007", 79);
        fault(" ".repeat(79) + "d", 80);
        fault(" ".repeat(79) + "o", 79);
        fault(" ".repeat(72) + "d0000000", 80);
    }

    // d is no letter of PEOPLE, and no letter of PEOPLE is d.
    static void p10ItemsInTheirOrder() {
        fault("o0000 d00000000", 0);
        fault("d00000000 d00000000", 10);
        fault("d00000000 o0000 d00000000", 16);
    }

    // TEXTS are 0 .. 3.
    static void p11WhichText() {
        Run.rich().range("town(#)", 0, 3);
    }

    // NOTHING: missing. (STATE behind NOTHING.)
    static void p11Missing() {
        Run.rich().found(NOTHING, "town(2)");
        Run.fresh().found(NOTHING, "town(0)", "town(3)");
    }

    // STATE: a FAULT; the TOWN, its DAYS and the kept TOWNS stay.
    static void p11AFault() {
        Run.rich().state("town(0)", "town(1)");
        for (String signs : new String[] {" ", "d0000000", "d00000000o000", "d00000000o0007", SIX + "o0000",
            SIX + "?"}) {
            Run.rich().writes(2, signs).state("town(2)");
        }
    }

    // How many PEOPLE: none to 6.
    static void p11HowMany() {
        for (int people = 0; people <= 6; people++) {
            Run x = Run.fresh().writes(0, SIX.substring(0, 9 + 5 * people)).due("town(0)", people)
                .due("count(0)", people);
            x.bad("person(" + people + ", 0)");
        }
    }

    // Anew: no DAYS, PAGES read neither; kept TOWNS go, all three; ROWS, TEXTS and what was told stay.
    static void p11Anew() {
        Run x = Run.rich().does("keep(1)").due("count(8)", 3).due("count(1)", 3).due("town(3)", 6);
        x.due("count(8)", 0).due("count(1)", 0).due("count(2)", 129).due("asked()", -77).due("upper()", 1)
            .due("lower()", 4);
        x.due("count(6)", 3).due("count(7)", 3).bad("undo(1)").found(NOTHING, "on(0)", "on(1)", "on(2)");
        for (int one = 0; one < 6; one++) {
            x.due("person(" + one + ", 5)", 1).due("asked()", 0);
        }
    }

    // Anew: HABITS as the TEXT tells, not as they were set.
    static void p11HabitsAnew() {
        Run.rich().does("habit(0, 0)", "habit(1, 1)", "town(3)").due("person(0, 3)", 1).due("asked()", 1)
            .due("person(1, 3)", 1).due("asked()", 0);
    }

    // Anew behind 40 DAYS: 40 more can go.
    static void p11AnewBehind40() {
        Run.rich().does("luck(37, 1)").full("luck(1, 1)").due("town(3)", 6).due("luck(40, 1)", 20);
    }

    // Which FACTS are so YESTERDAY: 0, 1, .. as they come.
    static void p11Yesterday() {
        for (int fact = 0; fact < 8; fact++) {
            StringBuilder signs = new StringBuilder("d00000000");
            signs.setCharAt(1 + fact, '1');
            Run.fresh().does("yesterday(255)").writes(0, signs.toString()).due("town(0)", 0).due("count(2)", 1 << fact);
        }
        Run.fresh().writes(0, "d11111111").due("town(0)", 0).due("count(2)", 255);
    }

    // Anew: nothing is so YESTERDAY that the TEXT does not tell, whatever TEXTS were looked at before.
    static void p11YesterdayAnew() {
        Run.fresh().writes(0, "d11111111").writes(1, "d00000000").does("town(0)").due("town(1)", 0).due("count(2)", 0);
        Run.fresh().writes(0, "d11111111").writes(1, "d00100000").due("fault(0)", NONE).due("town(1)", 0)
            .due("count(2)", 4);
        Run.fresh().writes(0, "d1111111").writes(1, "d00000001").due("fault(0)", 8).due("town(1)", 0)
            .due("count(2)", 128);
        Run.fresh().writes(0, "d1111111").writes(1, "d00000000").state("town(0)").due("town(1)", 0).due("count(2)", 0);
    }

    // Anew: nothing is left of a greater TOWN, of its DAYS, of what was asked about it.
    static void p11NothingIsLeft() {
        String[] about = {"pages(1)", "pages(0)", "torn(0, 1, 1)", "sure(0)", "look(0, 0, 0)", "mustNot()", "most()",
            "who(1)", "who(0)",
            "sets(0)", "sets(1)", "edit(1, 1)", "edit(1, 0)", "choose(0, 1, 1)", "choose(0, 0, 0)", "lead(1, 1, 0)",
            "lead(2, 2, 0)", "lead(1, 0, 0)", "reach()", "bet(0)", "numbers()", "nerve()", "luck(2, 1)",
            "odds(0, 0)", "holds(0, 0)",
                "mark(0, 1)"};
        for (String call : about) {
            Run small = Run.fresh().writes(0, "d00000000r0001").does("town(0)", "agrees(0, 0)");
            Run great = Run.town(Run.SIX_ONES).does("yesterday(255)", "luck(40, 1)", "pages(63)", "reach()", "keep(0)",
                "edit(255, 255)");
            great.does("text(3, 0)").writes(0, "d00000000r0001").does("town(0)", "agrees(0, 0)");
            great.due(call, small.answer(call)).due("asked()", small.answer("asked()"))
                .due("count(2)", small.answer("count(2)"));
        }
    }

    // A TOWN without PEOPLE, behind one with 6: there is nobody then.
    static void p11Nobody() {
        Run.rich().writes(2, "d11111111").due("town(2)", 0).due("count(0)", 0).due("count(2)", 255).due("count(3)", 0)
            .due("count(5)", 0).bad("person(0, 0)", "pages(1)").state("keep(0)", "luck(1, 1)", "print(255, 0)");
    }

    // The TOWN is as the TEXT told it then: it stays, whatever comes to the TEXT.
    static void p11TheTextChanges() {
        Run.rich().does("put(3, 0, 120)", "put(3, 10, 114)").due("person(0, 0)", 1).due("asked()", 0).due("count(0)", 6)
            .state("town(3)").does("text(3, 0)").due("count(0)", 6).state("town(3)");
    }
}
