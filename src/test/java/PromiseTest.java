/** For each promise of the document: ordinary inputs, the edges that it names, wrong inputs. All answers by hand. */
public final class PromiseTest {
    private static final int BAD = -1, FULL = -2, STATE = -4, NONE = -9;
    private static final int NOTHING = 1, BEYOND = 2, UNLIKE = 3, NOUGHT = 4, SIZE = 5;
    private static final int MIN = Integer.MIN_VALUE, MAX = Integer.MAX_VALUE;
    private static final Check check = new Check();

    public static void main(String[] args) {
        rowsAndTexts();
        townsAndPeople();
        pagesAndDays();
        whichPages();
        whoReads();
        editors();
        betsAndLots();
        whatIsTold();
        check.end();
    }

    private static void rowsAndTexts() {
        newObject();
        row();
        lay();
        at();
        tear();
        copy();
        mean();
        text();
        put();
        fault();
    }

    private static void townsAndPeople() {
        town();
        person();
        mark();
        habit();
        yesterday();
    }

    private static void pagesAndDays() {
        day();
        agrees();
        print();
        undo();
        keep();
        on();
    }

    private static void whichPages() {
        pages();
        nth();
        sure();
        torn();
        look();
        odds();
    }

    private static void whoReads() {
        mustNot();
        most();
        who();
        sets();
        holds();
        halves();
        spoil();
    }

    private static void editors() {
        edit();
        choose();
        lead();
        reach();
    }

    private static void betsAndLots() {
        bet();
        numbers();
        nerve();
        luck();
    }

    private static void whatIsTold() {
        asked();
        upperAndLower();
        count();
        findings();
        digest();
    }

    private static void newObject() {
        check.part("1 new object");
        TomorrowPage x = new TomorrowPage();
        for (int what = 0; what <= 8; what++) {
            check.due("count(" + what + ")", x.count(what), 0);
        }
        check.due("asked()", x.asked(), 0);
        check.due("upper()", x.upper(), 0);
        check.due("lower()", x.lower(), 1);
        check.due("finding()", x.finding(), 0);
        check.due("day(0, 0)", x.day(0, 0), 0);
        check.refused("person(0, 0)", x, () -> x.person(0, 0), BAD);
        for (int r = 0; r < 6; r++) {
            int row = r;
            check.found("at(" + r + ", 0)", x, () -> x.at(row, 0), NOTHING);
        }
        for (int t = 0; t < 4; t++) {
            int text = t;
            check.found("fault(" + t + ")", x, () -> x.fault(text), NOTHING);
        }
        for (int k = 0; k < 3; k++) {
            int place = k;
            check.found("on(" + k + ")", x, () -> x.on(place), NOTHING);
        }
    }

    private static void row() {
        check.part("2 row");
        TomorrowPage x = new TomorrowPage();
        check.due("row(0, 0)", x.row(0, 0), 0);
        check.due("row(5, 40)", x.row(5, 40), 40);
        check.due("lay(5, 39, 7)", x, x.lay(5, 39, 7), 1, 0);
        check.due("row(5, 40) anew", x.row(5, 40), 40);
        check.due("at(5, 39)", x, x.at(5, 39), 1, 0);
        check.due("row(5, 3)", x.row(5, 3), 3);
        check.found("at(5, 3)", x, () -> x.at(5, 3), BEYOND);
        check.due("count(6)", x.count(6), 2);
        check.refused("row(-1, 3)", x, () -> x.row(-1, 3), BAD);
        check.refused("row(6, 3)", x, () -> x.row(6, 3), BAD);
        check.refused("row(0, 41)", x, () -> x.row(0, 41), BAD);
        check.refused("row(0, MAX)", x, () -> x.row(0, MAX), BAD);
        check.refused("row(6, -1)", x, () -> x.row(6, -1), BAD);
        check.found("row(5, -1)", x, () -> x.row(5, -1), SIZE);
        check.found("row(5, MIN)", x, () -> x.row(5, MIN), SIZE);
    }

    private static void lay() {
        check.part("3 lay");
        TomorrowPage x = new TomorrowPage();
        x.row(1, 2);
        check.due("lay(1, 0, 5)", x, x.lay(1, 0, 5), 1, 0);
        check.due("lay(1, 0, MIN)", x, x.lay(1, 0, MIN), 1, 5);
        check.due("lay(1, 0, 3)", x, x.lay(1, 0, 3), 1, MIN);
        check.due("lay(1, 1, 9)", x, x.lay(1, 1, 9), 1, 0);
        check.refused("lay(-1, 0, 1)", x, () -> x.lay(-1, 0, 1), BAD);
        check.refused("lay(6, 0, 1)", x, () -> x.lay(6, 0, 1), BAD);
        check.found("lay(0, 0, 1)", x, () -> x.lay(0, 0, 1), NOTHING);
        check.found("lay(0, -1, 1)", x, () -> x.lay(0, -1, 1), NOTHING);
        check.found("lay(1, 2, 1)", x, () -> x.lay(1, 2, 1), BEYOND);
        check.found("lay(1, -1, 1)", x, () -> x.lay(1, -1, 1), BEYOND);
        check.found("lay(1, MAX, 1)", x, () -> x.lay(1, MAX, 1), BEYOND);
    }

    private static void at() {
        check.part("4 at");
        TomorrowPage x = new TomorrowPage();
        x.row(2, 2);
        x.lay(2, 1, -77);
        check.due("at(2, 1)", x, x.at(2, 1), 1, -77);
        check.due("at(2, 0)", x, x.at(2, 0), 1, 0);
        check.refused("at(-1, 0)", x, () -> x.at(-1, 0), BAD);
        check.refused("at(6, 0)", x, () -> x.at(6, 0), BAD);
        check.found("at(3, 0)", x, () -> x.at(3, 0), NOTHING);
        check.found("at(2, 2)", x, () -> x.at(2, 2), BEYOND);
        check.found("at(2, -1)", x, () -> x.at(2, -1), BEYOND);
        check.found("at(2, MIN)", x, () -> x.at(2, MIN), BEYOND);
    }

    private static void tear() {
        check.part("5 tear");
        TomorrowPage x = new TomorrowPage();
        x.row(0, 3);
        x.row(1, 3);
        check.due("tear(0)", x.tear(0), 1);
        check.due("count(6)", x.count(6), 1);
        check.found("at(0, 0)", x, () -> x.at(0, 0), NOTHING);
        check.found("tear(0)", x, () -> x.tear(0), NOTHING);
        check.refused("tear(-1)", x, () -> x.tear(-1), BAD);
        check.refused("tear(6)", x, () -> x.tear(6), BAD);
        check.due("row(0, 1)", x.row(0, 1), 1);
        check.due("at(0, 0)", x, x.at(0, 0), 1, 0);
    }

    private static void rowIs(TomorrowPage x, int r, int... due) {
        for (int i = 0; i < due.length; i++) {
            check.due("at(" + r + ", " + i + ")", x, x.at(r, i), 1, due[i]);
        }
        int beyond = due.length;
        check.found("at(" + r + ", " + beyond + ")", x, () -> x.at(r, beyond), BEYOND);
    }

    private static void copy() {
        check.part("6 copy");
        TomorrowPage x = new TomorrowPage();
        x.row(0, 5);
        x.row(1, 3);
        for (int i = 0; i < 5; i++) {
            x.lay(0, i, 10 + i);
        }
        check.due("copy(0, 1, 1, 0, 3)", x.copy(0, 1, 1, 0, 3), 1);
        rowIs(x, 1, 11, 12, 13);
        rowIs(x, 0, 10, 11, 12, 13, 14);
        check.due("copy(0, 0, 0, 1, 4)", x.copy(0, 0, 0, 1, 4), 1);
        rowIs(x, 0, 10, 10, 11, 12, 13);
        check.due("copy(0, 1, 0, 0, 4)", x.copy(0, 1, 0, 0, 4), 1);
        rowIs(x, 0, 10, 11, 12, 13, 13);
        check.due("copy(0, 5, 1, 3, 0)", x.copy(0, 5, 1, 3, 0), 1);
        check.refused("copy(-1, 0, 1, 0, 1)", x, () -> x.copy(-1, 0, 1, 0, 1), BAD);
        check.refused("copy(0, 0, 6, 0, 1)", x, () -> x.copy(0, 0, 6, 0, 1), BAD);
        check.refused("copy(6, 0, 1, 0, -1)", x, () -> x.copy(6, 0, 1, 0, -1), BAD);
        check.found("copy(2, 0, 1, 0, -1)", x, () -> x.copy(2, 0, 1, 0, -1), SIZE);
        check.found("copy(0, 0, 1, 0, MIN)", x, () -> x.copy(0, 0, 1, 0, MIN), SIZE);
        check.found("copy(2, 9, 1, 0, 1)", x, () -> x.copy(2, 9, 1, 0, 1), NOTHING);
        check.found("copy(0, 0, 2, 0, 1)", x, () -> x.copy(0, 0, 2, 0, 1), NOTHING);
        check.found("copy(0, 3, 1, 0, 3)", x, () -> x.copy(0, 3, 1, 0, 3), BEYOND);
        check.found("copy(0, 0, 1, 1, 3)", x, () -> x.copy(0, 0, 1, 1, 3), BEYOND);
        check.found("copy(0, -1, 1, 0, 1)", x, () -> x.copy(0, -1, 1, 0, 1), BEYOND);
        check.found("copy(0, 0, 1, -1, 1)", x, () -> x.copy(0, 0, 1, -1, 1), BEYOND);
        check.found("copy(0, MAX, 1, 0, MAX)", x, () -> x.copy(0, MAX, 1, 0, MAX), BEYOND);
        check.found("copy(0, 1, 1, 0, MAX)", x, () -> x.copy(0, 1, 1, 0, MAX), BEYOND);
        check.found("copy(0, 6, 1, 0, 0)", x, () -> x.copy(0, 6, 1, 0, 0), BEYOND);
    }

    private static void mean() {
        check.part("7 mean");
        TomorrowPage x = new TomorrowPage();
        x.row(0, 2);
        x.lay(0, 0, 3);
        x.lay(0, 1, 4);
        check.due("mean(0)", x, x.mean(0), 1, 3);
        x.lay(0, 0, -3);
        x.lay(0, 1, -4);
        check.due("mean(0)", x, x.mean(0), 1, -3);
        x.lay(0, 0, MAX);
        x.lay(0, 1, MAX);
        check.due("mean(0)", x, x.mean(0), 1, MAX);
        x.lay(0, 0, MIN);
        x.lay(0, 1, MIN);
        check.due("mean(0)", x, x.mean(0), 1, MIN);
        x.row(1, 0);
        check.found("mean(1)", x, () -> x.mean(1), NOUGHT);
        check.found("mean(2)", x, () -> x.mean(2), NOTHING);
        check.refused("mean(6)", x, () -> x.mean(6), BAD);
        check.refused("mean(-1)", x, () -> x.mean(-1), BAD);
    }

    private static void text() {
        check.part("8 text");
        TomorrowPage x = new TomorrowPage();
        check.due("text(0, 0)", x.text(0, 0), 0);
        check.due("text(3, 80)", x.text(3, 80), 80);
        check.due("put(3, 79, 65)", x.put(3, 79, 65), 1032);
        check.due("text(3, 80) anew", x.text(3, 80), 80);
        check.due("put(3, 79, 65)", x.put(3, 79, 65), 1032);
        check.due("text(3, 2)", x.text(3, 2), 2);
        check.found("put(3, 2, 1)", x, () -> x.put(3, 2, 1), BEYOND);
        check.due("count(7)", x.count(7), 2);
        check.refused("text(-1, 1)", x, () -> x.text(-1, 1), BAD);
        check.refused("text(4, 1)", x, () -> x.text(4, 1), BAD);
        check.refused("text(0, 81)", x, () -> x.text(0, 81), BAD);
        check.refused("text(4, -1)", x, () -> x.text(4, -1), BAD);
        check.found("text(0, -1)", x, () -> x.text(0, -1), SIZE);
    }

    private static void put() {
        check.part("9 put");
        TomorrowPage x = new TomorrowPage();
        x.text(1, 2);
        check.due("put(1, 0, 127)", x.put(1, 0, 127), 1032);
        check.due("put(1, 0, 128)", x.put(1, 0, 128), 1127);
        check.due("put(1, 0, 255)", x.put(1, 0, 255), 872);
        check.due("put(1, 0, 256 + 65)", x.put(1, 0, 256 + 65), 999);
        check.due("put(1, 0, -129)", x.put(1, 0, -129), 1065);
        check.due("put(1, 0, 0)", x.put(1, 0, 0), 1127);
        check.due("put(1, 1, 0)", x.put(1, 1, 0), 1032);
        check.due("asked()", x.asked(), 0);
        check.refused("put(-1, 0, 1)", x, () -> x.put(-1, 0, 1), BAD);
        check.refused("put(4, 0, 1)", x, () -> x.put(4, 0, 1), BAD);
        check.found("put(0, 0, 1)", x, () -> x.put(0, 0, 1), NOTHING);
        check.found("put(1, 2, 1)", x, () -> x.put(1, 2, 1), BEYOND);
        check.found("put(1, -1, 1)", x, () -> x.put(1, -1, 1), BEYOND);
    }

    private static void faultIs(String signs, int due) {
        TomorrowPage x = new TomorrowPage();
        Check.write(x, 0, signs);
        check.due("fault of '" + signs + "'", x.fault(0), due);
        if (due != NONE) {
            check.refused("town of '" + signs + "'", x, () -> x.town(0), STATE);
        }
    }

    private static void fault() {
        check.part("10 fault");
        faultIs("", 0);
        faultIs("   ", 3);
        faultIs("d00000000", NONE);
        faultIs("  d01010101   ", NONE);
        faultIs("d0000000", 8);
        faultIs("d", 1);
        faultIs("D00000000", 0);
        faultIs(" 00000000", 1);
        faultIs("d00020000", 4);
        faultIs("d 00000000", 1);
        faultIs("d0000000 0", 8);
        faultIs("d000000000", 9);
        faultIs("d00000000o7716", NONE);
        faultIs("d00000000o7716r0000s0000g0000l0000f0000", NONE);
        faultIs("d00000000   o7716 r0000  s0000g0000 l0000 f0000  ", NONE);
        faultIs("d00000000 o8000", 11);
        faultIs("d00000000 o0800", 12);
        faultIs("d00000000 o0020", 13);
        faultIs("d00000000 o0007", 14);
        faultIs("d00000000 o000", 14);
        faultIs("d00000000 o", 11);
        faultIs("d00000000 o0 00", 12);
        faultIs("d00000000 o00000", 15);
        faultIs("d00000000 x0000", 10);
        faultIs("d00000000 O0000", 10);
        faultIs("d00000000 d00000000", 10);
        faultIs("d00000000o0000o0000o0000o0000o0000o0000 o0000", 40);
        faultIs("d00000000o0000o0000o0000o0000o0000o0000 ?", 40);
        faultIs("d00000000o0000o0000o0000o0000o0000o000", 38);
        faultIs("d00000000 o/000", 11);
        faultIs("d0000000: ", 8);
        faultIs("d00000000 o000" + (char) 176, 14);
        faultIs("d00000000" + " ".repeat(70) + "o", 80);
        faultIs("d00000000" + " ".repeat(66) + "o7716", NONE);
        TomorrowPage x = new TomorrowPage();
        check.refused("fault(-1)", x, () -> x.fault(-1), BAD);
        check.refused("fault(4)", x, () -> x.fault(4), BAD);
        check.found("fault(0)", x, () -> x.fault(0), NOTHING);
        check.refused("town(-1)", x, () -> x.town(-1), BAD);
        check.refused("town(4)", x, () -> x.town(4), BAD);
        check.found("town(0)", x, () -> x.town(0), NOTHING);
    }

    private static void town() {
        check.part("11 town");
        TomorrowPage x = new TomorrowPage();
        Check.write(x, 0, " d10000010 o0000 g1111");
        check.due("town(0)", x.town(0), 2);
        check.due("count(0)", x.count(0), 2);
        check.due("count(2)", x.count(2), 1 + 64);
        check.due("print(66, 0)", x.print(66, 0), 1);
        check.due("keep(1)", x.keep(1), 1);
        Check.write(x, 1, "d00000001r5406");
        check.due("town(1)", x.town(1), 1);
        check.due("count(1)", x.count(1), 0);
        check.due("count(2)", x.count(2), 128);
        check.due("count(8)", x.count(8), 0);
        check.found("on(1)", x, () -> x.on(1), NOTHING);
        check.due("person(0, 5)", x, x.person(0, 5), 1, 0);
        check.refused("person(1, 0)", x, () -> x.person(1, 0), BAD);
        x.keep(2);
        Check.write(x, 2, "d00000001r5407");
        check.refused("town(2)", x, () -> x.town(2), STATE);
        check.due("on(2)", x.on(2), 0);
        Check.write(x, 2, "d11111111");
        check.due("town(2)", x.town(2), 0);
        check.due("count(0)", x.count(0), 0);
        check.due("count(2)", x.count(2), 255);
    }

    private static void person() {
        check.part("12 person");
        TomorrowPage x = Check.town("d00000000o0712f7016s3104r2201g4300l5616");
        int[][] due = {{0, 0, 7, 1, 2, 0}, {5, 7, 0, 1, 6, 0}, {2, 3, 1, 0, 4, 0}, {1, 2, 2, 0, 1, 0}, {3, 4, 3, 0, 0, 0},
            {4, 5, 6, 1, 6, 0}};
        for (int one = 0; one < 6; one++) {
            for (int what = 0; what < 6; what++) {
                check.due("person(" + one + ", " + what + ")", x, x.person(one, what), 1, due[one][what]);
            }
        }
        check.refused("person(6, 0)", x, () -> x.person(6, 0), BAD);
        check.refused("person(-1, 0)", x, () -> x.person(-1, 0), BAD);
        check.refused("person(0, 6)", x, () -> x.person(0, 6), BAD);
        check.refused("person(0, -1)", x, () -> x.person(0, -1), BAD);
        TomorrowPage y = Check.town("d00000000o0000o1100");
        y.print(1, 1);
        y.print(3, 3);
        check.due("person(0, 5)", y, y.person(0, 5), 1, 2);
        check.due("person(1, 5)", y, y.person(1, 5), 1, 1);
    }

    private static void mark() {
        check.part("13 mark");
        String signs = "d00100000 r2000 s2100 g5210 l2310 f4200 o0200";
        int[][] due = {{3, 0, 0, 0, 0}, {0, 1, 0, 0, 0}, {0, 0, 2, 0, 0}, {3, 0, 0, 1, 0}, {0, 0, 2, 0, 1}, {0, 0, 0, 0, 0}};
        int[][] of = {{1, 0, 0, 0, 0}, {0, 1, 0, 0, 0}, {0, 0, 1, 0, 0}, {1, 0, 0, 1, 0}, {0, 0, 1, 0, 1}, {0, 0, 0, 0, 0}};
        for (int one = 0; one < 6; one++) {
            TomorrowPage own = Check.town(signs);
            for (int kind = 1; kind <= 5; kind++) {
                int who = one;
                int as = kind;
                String call = "mark(" + one + ", " + kind + ")";
                if (of[one][kind - 1] == 1) {
                    check.due(call, own.mark(one, kind), due[one][kind - 1]);
                } else {
                    check.found(call, own, () -> own.mark(who, as), UNLIKE);
                }
            }
        }
        TomorrowPage x = Check.town(signs);
        x.mark(3, 4);
        check.due("asked()", x.asked(), 0);
        x.yesterday(0);
        check.due("mark(1, 2)", x.mark(1, 2), 0);
        check.refused("mark(0, 0)", x, () -> x.mark(0, 0), BAD);
        check.refused("mark(5, 0)", x, () -> x.mark(5, 0), BAD);
        check.refused("mark(0, 6)", x, () -> x.mark(0, 6), BAD);
        check.refused("mark(0, -1)", x, () -> x.mark(0, -1), BAD);
        check.refused("mark(6, 1)", x, () -> x.mark(6, 1), BAD);
        check.refused("mark(-1, 1)", x, () -> x.mark(-1, 1), BAD);
        check.due("mark(0, 4) of two", Check.town("d00000000l0000").mark(0, 4), 2);
        check.due("mark(0, 4) of one", Check.town("d00000000l0100r2200").mark(0, 4), 1);
        check.due("mark(0, 5)", Check.town("d00000000f0010").mark(0, 5), 1);
    }

    private static void habit() {
        check.part("14 habit");
        TomorrowPage x = Check.town("d00000000o0110s0200");
        check.due("habit(0, 0)", x.habit(0, 0), 1);
        check.due("habit(0, 0)", x.habit(0, 0), 0);
        check.due("habit(1, 1)", x.habit(1, 1), 0);
        check.due("day(0, 0)", x.day(0, 0), 4);
        check.due("person(1, 3)", x, x.person(1, 3), 1, 1);
        check.refused("habit(2, 0)", x, () -> x.habit(2, 0), BAD);
        check.refused("habit(-1, 0)", x, () -> x.habit(-1, 0), BAD);
        check.refused("habit(0, 2)", x, () -> x.habit(0, 2), BAD);
        check.refused("habit(0, -1)", x, () -> x.habit(0, -1), BAD);
    }

    private static void yesterday() {
        check.part("15 yesterday");
        TomorrowPage x = new TomorrowPage();
        check.due("yesterday(255)", x.yesterday(255), 0);
        check.due("yesterday(7)", x.yesterday(7), 255);
        check.due("count(2)", x.count(2), 7);
        check.due("day(0, 0)", x.day(0, 0), 7);
        check.refused("yesterday(256)", x, () -> x.yesterday(256), BAD);
        check.refused("yesterday(-1)", x, () -> x.yesterday(-1), BAD);
    }

    /** What one who reads DOES: told so, told not so, by HABIT 0 and 1. */
    private static void deeds(String letter, int so0, int so1, int not0, int not1, String other) {
        for (int habit = 0; habit < 2; habit++) {
            TomorrowPage x = Check.town("d10000001" + letter + "01" + habit + "0" + other);
            int readers = other.isEmpty() ? 1 : 3;
            int so = habit == 0 ? so0 : so1;
            int not = habit == 0 ? not0 : not1;
            check.due(letter + " does not read, " + habit, x.day(1, 0) >> 1 & 1, habit);
            check.due(letter + " reads that it is so, " + habit, x.day(1, readers), 129 + 2 * so);
            check.due(letter + " reads that it is not so, " + habit, x.day(254, readers), 129 + 2 * not);
        }
    }

    private static void day() {
        check.part("16 day");
        deeds("o", 1, 1, 0, 0, "");
        deeds("r", 0, 0, 1, 1, "");
        deeds("s", 0, 0, 0, 1, "");
        deeds("g", 1, 1, 0, 1, "");
        deeds("l", 1, 1, 0, 0, "");
        deeds("f", 0, 1, 1, 1, "");
        deeds("l", 0, 0, 1, 1, "s6600");
        deeds("r", 0, 0, 1, 1, "s6600");
        deeds("o", 1, 1, 0, 0, "s6600");
        TomorrowPage x = Check.town("d11000000o2010s3010o4110");
        check.due("two do it, one makes it so", x.day(0, 1), 3);
        check.due("two do it, nobody makes it so", x.day(8, 3), 2);
        check.due("by habits", x.day(0, 0), 3);
        check.due("one makes it not so", x.day(0, 4), 1);
        check.refused("day(-1, 0)", x, () -> x.day(-1, 0), BAD);
        check.refused("day(256, 0)", x, () -> x.day(256, 0), BAD);
        check.refused("day(0, 8)", x, () -> x.day(0, 8), BAD);
        check.refused("day(0, -1)", x, () -> x.day(0, -1), BAD);
        TomorrowPage none = new TomorrowPage();
        none.yesterday(9);
        check.due("day(0, 0) without PEOPLE", none.day(0, 0), 9);
        check.refused("day(0, 1) without PEOPLE", none, () -> none.day(0, 1), BAD);
    }

    private static void agrees() {
        check.part("17 agrees");
        TomorrowPage x = Check.town("d00000001o0100");
        check.due("agrees(128, 1)", x, x.agrees(128, 1), 1, 0);
        check.due("agrees(129, 1)", x, x.agrees(129, 1), 0, 3);
        check.due("agrees(0, 0)", x, x.agrees(0, 0), 0, 128);
        check.due("agrees(255, 0)", x, x.agrees(255, 0), 0, 127);
        check.refused("agrees(256, 0)", x, () -> x.agrees(256, 0), BAD);
        check.refused("agrees(-1, 0)", x, () -> x.agrees(-1, 0), BAD);
        check.refused("agrees(0, 2)", x, () -> x.agrees(0, 2), BAD);
        check.refused("agrees(0, -1)", x, () -> x.agrees(0, -1), BAD);
    }

    private static void print() {
        check.part("18 print");
        TomorrowPage x = Check.town("d00000001o0000o1100");
        check.due("print(129, 1)", x.print(129, 1), 1);
        check.due("count(2)", x.count(2), 129);
        check.due("print(131, 3)", x.print(131, 3), 2);
        check.due("print(128, 0)", x.print(128, 0), 3);
        check.due("person(0, 5)", x, x.person(0, 5), 1, 2);
        check.due("person(1, 5)", x, x.person(1, 5), 1, 1);
        check.due("count(1)", x.count(1), 3);
        check.refused("print(129, 0)", x, () -> x.print(129, 0), STATE);
        check.refused("print(256, 0)", x, () -> x.print(256, 0), BAD);
        check.refused("print(-1, 0)", x, () -> x.print(-1, 0), BAD);
        check.refused("print(128, 4)", x, () -> x.print(128, 4), BAD);
        check.refused("print(128, -1)", x, () -> x.print(128, -1), BAD);
        for (int day = 4; day <= 40; day++) {
            check.due("print(128, 0)", x.print(128, 0), day);
        }
        check.refused("print(128, 0) at 40", x, () -> x.print(128, 0), FULL);
        check.refused("print(129, 0) at 40", x, () -> x.print(129, 0), STATE);
        TomorrowPage none = new TomorrowPage();
        check.refused("print(0, 0) without PEOPLE", none, () -> none.print(0, 0), STATE);
        check.refused("print(0, 1) without PEOPLE", none, () -> none.print(0, 1), BAD);
    }

    private static void undo() {
        check.part("19 undo");
        TomorrowPage x = Check.town("d00000001o0000o1100");
        x.print(129, 1);
        x.yesterday(131);
        x.print(130, 2);
        x.habit(0, 1);
        x.print(131, 3);
        x.yesterday(0);
        check.due("undo(3)", x.undo(3), 0);
        check.due("count(2)", x.count(2), 0);
        check.refused("undo(4)", x, () -> x.undo(4), BAD);
        check.refused("undo(-1)", x, () -> x.undo(-1), BAD);
        check.due("undo(1)", x.undo(1), 2);
        check.due("count(2)", x.count(2), 131);
        check.due("count(1)", x.count(1), 1);
        check.due("person(0, 5)", x, x.person(0, 5), 1, 1);
        check.due("person(1, 5)", x, x.person(1, 5), 1, 0);
        check.due("person(0, 3)", x, x.person(0, 3), 1, 1);
        check.due("undo(0)", x.undo(0), 1);
        check.due("count(2)", x.count(2), 128);
        check.due("person(0, 5)", x, x.person(0, 5), 1, 0);
        check.due("undo(0)", x.undo(0), 0);
    }

    private static void keep() {
        check.part("20 keep");
        TomorrowPage x = Check.town("d00000000o0000");
        check.due("keep(0)", x.keep(0), 0);
        x.print(1, 1);
        check.due("keep(2)", x.keep(2), 1);
        check.due("count(8)", x.count(8), 2);
        check.due("keep(0)", x.keep(0), 1);
        check.due("count(8)", x.count(8), 2);
        check.refused("keep(3)", x, () -> x.keep(3), BAD);
        check.refused("keep(-1)", x, () -> x.keep(-1), BAD);
        TomorrowPage none = new TomorrowPage();
        check.refused("keep(0) without PEOPLE", none, () -> none.keep(0), STATE);
        check.refused("keep(3) without PEOPLE", none, () -> none.keep(3), BAD);
    }

    private static void on() {
        check.part("21 on");
        TomorrowPage x = Check.town("d00000000o0000o1100");
        x.print(1, 1);
        long kept = townOf(x);
        x.keep(1);
        x.habit(0, 1);
        x.print(3, 3);
        x.yesterday(200);
        check.due("on(1)", x.on(1), 1);
        check.due("the town", townOf(x), kept);
        x.undo(0);
        check.due("count(2) undone", x.count(2), 0);
        check.due("on(1) again", x.on(1), 1);
        check.due("the town again", townOf(x), kept);
        check.due("undo(0)", x.undo(0), 1);
        check.due("count(2)", x.count(2), 0);
        check.found("on(0)", x, () -> x.on(0), NOTHING);
        check.refused("on(3)", x, () -> x.on(3), BAD);
        check.refused("on(-1)", x, () -> x.on(-1), BAD);
    }

    private static long townOf(TomorrowPage x) {
        long h = 31L * x.count(1) + x.count(2);
        for (int one = 0; one < x.count(0); one++) {
            for (int what = 0; what < 6; what++) {
                x.person(one, what);
                h = 31 * h + x.asked();
            }
        }
        return h;
    }

    private static void pages() {
        check.part("22 pages");
        TomorrowPage x = Check.town("d00000001o0000r1110");
        check.due("pages(0)", x, x.pages(0), 1, 130);
        check.due("pages(1)", x, x.pages(1), 2, 130);
        check.due("pages(2)", x, x.pages(2), 0, NONE);
        check.due("pages(3)", x, x.pages(3), 0, NONE);
        check.refused("pages(4)", x, () -> x.pages(4), BAD);
        check.refused("pages(-1)", x, () -> x.pages(-1), BAD);
        check.due("pages(63)", Check.town("d00000000o0000o1100o2200o3300o4400o5500").pages(63), 64);
        check.due("pages(0) without PEOPLE", new TomorrowPage().pages(0), 1);
    }

    private static void nth() {
        check.part("23 nth");
        TomorrowPage x = Check.town("d00000000o3300o1100");
        int[] due = {0, 2, 8, 10};
        for (int i = 0; i < 4; i++) {
            check.due("nth(" + i + ", 3)", x.nth(i, 3), due[i]);
        }
        check.due("asked()", x.asked(), 0);
        check.found("nth(4, 3)", x, () -> x.nth(4, 3), NOUGHT);
        check.found("nth(MAX, 3)", x, () -> x.nth(MAX, 3), NOUGHT);
        check.refused("nth(-1, 3)", x, () -> x.nth(-1, 3), BAD);
        check.refused("nth(0, 4)", x, () -> x.nth(0, 4), BAD);
        check.refused("nth(0, -1)", x, () -> x.nth(0, -1), BAD);
        TomorrowPage liar = Check.town("d00000000r0000");
        check.found("nth(0, 1)", liar, () -> liar.nth(0, 1), NOUGHT);
    }

    private static void sure() {
        check.part("24 sure");
        TomorrowPage x = Check.town("d00000001o0000o1110");
        check.due("sure(0)", x, x.sure(0), 130, 125);
        check.due("sure(1)", x, x.sure(1), 130, 124);
        check.due("sure(3)", x, x.sure(3), 128, 124);
        check.due("sure(0) behind one of more PAGES", x, x.sure(0), 130, 125);
        check.refused("sure(4)", x, () -> x.sure(4), BAD);
        check.refused("sure(-1)", x, () -> x.sure(-1), BAD);
        TomorrowPage liar = Check.town("d00000000r0000");
        check.found("sure(1)", liar, () -> liar.sure(1), NOUGHT);
    }

    private static void torn() {
        check.part("25 torn");
        TomorrowPage x = Check.town("d00000000o0000o1100");
        check.due("torn(3, 0, 255)", x, x.torn(3, 0, 255), 4, 0);
        check.due("torn(3, 1, 1)", x, x.torn(3, 1, 1), 2, 1);
        check.due("torn(3, 3, 254)", x, x.torn(3, 3, 254), 1, 2);
        check.due("torn(3, 255, 3)", x, x.torn(3, 255, 3), 1, 3);
        check.due("torn(3, 4, 4)", x, x.torn(3, 4, 4), 0, NONE);
        check.refused("torn(4, 0, 0)", x, () -> x.torn(4, 0, 0), BAD);
        check.refused("torn(0, 256, 0)", x, () -> x.torn(0, 256, 0), BAD);
        check.refused("torn(0, -1, 0)", x, () -> x.torn(0, -1, 0), BAD);
        check.refused("torn(0, 0, 256)", x, () -> x.torn(0, 0, 256), BAD);
        check.refused("torn(0, 0, -1)", x, () -> x.torn(0, 0, -1), BAD);
    }

    private static void look() {
        check.part("26 look");
        TomorrowPage x = Check.town("d00000000o2200o3300");
        check.due("look(3, 0, 0)", x, x.look(3, 0, 0), 2, 2);
        check.due("look(3, 4, 4)", x, x.look(3, 4, 4), 3, 1);
        check.due("look(3, 4, 251)", x, x.look(3, 4, 251), 3, 1);
        check.due("look(3, 12, 12)", x, x.look(3, 12, 12), 0, 1);
        check.due("look(3, 15, 12)", x, x.look(3, 15, 12), 4, 1);
        check.due("pages(3)", x, x.pages(3), 4, 0);
        check.due("look(3, 255, 8)", x, x.look(3, 255, 8), NONE, 0);
        check.found("look(3, 255, 1)", x, () -> x.look(3, 255, 1), NOUGHT);
        check.found("look(3, 1, 1)", x, () -> x.look(3, 1, 1), NOUGHT);
        TomorrowPage three = Check.town("d00000000o0000o1000o1100");
        check.due("look(7, 0, 0) of 0, 1, 3", three, three.look(7, 0, 0), 0, 2);
        check.refused("look(4, 0, 0)", x, () -> x.look(4, 0, 0), BAD);
        check.refused("look(-1, 0, 0)", x, () -> x.look(-1, 0, 0), BAD);
        check.refused("look(0, 256, 0)", x, () -> x.look(0, 256, 0), BAD);
        check.refused("look(0, 0, 256)", x, () -> x.look(0, 0, 256), BAD);
        check.refused("look(0, 0, -1)", x, () -> x.look(0, 0, -1), BAD);
    }

    private static void oddsAre(TomorrowPage x, String call, int got, int upper, int lower) {
        check.due(call, got, 1);
        check.due("upper() behind " + call, x.upper(), upper);
        check.due("lower() behind " + call, x.lower(), lower);
    }

    private static void odds() {
        check.part("27 odds");
        TomorrowPage x = Check.town("d00000001o0000o1100");
        oddsAre(x, "odds(3, 0)", x.odds(3, 0), 1, 2);
        oddsAre(x, "odds(3, 2)", x.odds(3, 2), 0, 1);
        oddsAre(x, "odds(3, 7)", x.odds(3, 7), 1, 1);
        oddsAre(x, "odds(1, 1)", x.odds(1, 1), 0, 1);
        check.due("asked()", x.asked(), 0);
        check.refused("odds(4, 0)", x, () -> x.odds(4, 0), BAD);
        check.refused("odds(-1, 0)", x, () -> x.odds(-1, 0), BAD);
        check.refused("odds(0, 8)", x, () -> x.odds(0, 8), BAD);
        check.refused("odds(0, -1)", x, () -> x.odds(0, -1), BAD);
        // 0 does fact 0 if told of fact 0; 1 does it, too, if told of fact 1: so, so, so, or not with fact 1 not so
        TomorrowPage y = Check.town("d00000000o0000o1000o1100");
        oddsAre(y, "odds(7, 0)", y.odds(7, 0), 2, 3);
        oddsAre(y, "odds(7, 1)", y.odds(7, 1), 1, 3);
        TomorrowPage liar = Check.town("d00000000r0000o1100");
        oddsAre(liar, "odds(2, 1)", liar.odds(2, 1), 1, 2);
        check.found("odds(1, 1)", liar, () -> liar.odds(1, 1), NOUGHT);
    }

    private static void mustNot() {
        check.part("28 mustNot");
        TomorrowPage x = Check.town("d00000000o0000r1100l2200r3300s4410f5500");
        check.due("mustNot()", x, x.mustNot(), 2 + 8 + 16 + 32, 4);
        TomorrowPage y = Check.town("d00000000r0000g1010");
        check.due("another one makes it so", y, y.mustNot(), 0, 0);
        TomorrowPage none = new TomorrowPage();
        check.due("mustNot() without PEOPLE", none, none.mustNot(), 0, 0);
    }

    private static void most() {
        check.part("29 most");
        TomorrowPage x = Check.town("d00000000r0000o1100o2200");
        check.due("most()", x, x.most(), 2, 6);
        TomorrowPage sly = Check.town("d00000000r2200l0000o1100");
        check.due("the least of alike", sly, sly.most(), 1, 2);
        TomorrowPage liar = Check.town("d00000000r0000");
        liar.agrees(7, 0);
        check.due("nobody", liar, liar.most(), 0, 0);
        TomorrowPage all = Check.town("d00000000o0000o1100o2200o3300o4400o5500");
        check.due("all", all, all.most(), 6, 63);
        TomorrowPage none = new TomorrowPage();
        check.due("without PEOPLE", none, none.most(), 0, 0);
    }

    private static void who() {
        check.part("30 who");
        TomorrowPage x = Check.town("d00000000o0000r1110o2200");
        check.due("who(2)", x, x.who(2), 5, 1);
        check.due("who(3)", x, x.who(3), 1, 0);
        check.due("who(6)", x, x.who(6), 4, 0);
        check.due("who(0)", x, x.who(0), 0, 0);
        check.refused("who(256)", x, () -> x.who(256), BAD);
        check.refused("who(-1)", x, () -> x.who(-1), BAD);
        TomorrowPage none = new TomorrowPage();
        check.due("who(0) without PEOPLE", none, none.who(0), 0, 1);
    }

    private static void sets() {
        check.part("31 sets");
        TomorrowPage x = Check.town("d00000000o0000r1110o2200");
        check.due("sets(2)", x, x.sets(2), 4, 0);
        check.due("sets(3)", x, x.sets(3), 2, 1);
        check.due("sets(6)", x, x.sets(6), 2, 4);
        check.due("sets(7)", x, x.sets(7), 1, 5);
        check.due("sets(0)", x, x.sets(0), 0, NONE);
        check.refused("sets(256)", x, () -> x.sets(256), BAD);
        check.refused("sets(-1)", x, () -> x.sets(-1), BAD);
    }

    private static void holds() {
        check.part("32 holds");
        TomorrowPage x = Check.town("d00000000o0000r1110o2200");
        oddsAre(x, "holds(0, 2)", x.holds(0, 2), 1, 3);
        oddsAre(x, "holds(1, 2)", x.holds(1, 2), 0, 1);
        oddsAre(x, "holds(2, 2)", x.holds(2, 2), 1, 3);
        oddsAre(x, "holds(0, 3)", x.holds(0, 3), 1, 1);
        check.due("asked()", x.asked(), 0);
        check.found("holds(0, 0)", x, () -> x.holds(0, 0), NOUGHT);
        check.refused("holds(3, 2)", x, () -> x.holds(3, 2), BAD);
        check.refused("holds(-1, 2)", x, () -> x.holds(-1, 2), BAD);
        check.refused("holds(0, 256)", x, () -> x.holds(0, 256), BAD);
        check.refused("holds(0, -1)", x, () -> x.holds(0, -1), BAD);
    }

    private static void halves() {
        check.part("33 halves");
        TomorrowPage x = Check.town("d00000000l0000o1110");
        check.due("both read", x, x.halves(0, 1, 1, 2), 0, NONE);
        check.due("one reads", x, x.halves(0, 1, 1, 253), 2, 2);
        check.due("the other one reads", x, x.halves(0, 254, 1, 2), 2, 0);
        check.due("the other way round", x, x.halves(1, 2, 0, 254), 2, 0);
        check.due("nobody reads", x, x.halves(0, 0, 1, 0), 1, 2);
        check.refused("one alone", x, () -> x.halves(1, 1, 1, 2), BAD);
        check.refused("halves(2, 0, 0, 0)", x, () -> x.halves(2, 0, 0, 0), BAD);
        check.refused("halves(0, 0, 2, 0)", x, () -> x.halves(0, 0, 2, 0), BAD);
        check.refused("halves(-1, 0, 0, 0)", x, () -> x.halves(-1, 0, 0, 0), BAD);
        check.refused("halves(0, 256, 1, 0)", x, () -> x.halves(0, 256, 1, 0), BAD);
        check.refused("halves(0, 0, 1, -1)", x, () -> x.halves(0, 0, 1, -1), BAD);
    }

    private static void spoil() {
        check.part("34 spoil");
        TomorrowPage x = Check.town("d00000000o0000o1000g1110");
        check.due("spoil(0, 2)", x.spoil(0, 2), 1);
        check.due("spoil(0, 3)", x.spoil(0, 3), 1);
        check.refused("spoil(0, 0)", x, () -> x.spoil(0, 0), STATE);
        check.refused("spoil(3, 2)", x, () -> x.spoil(3, 2), BAD);
        check.refused("spoil(-1, 2)", x, () -> x.spoil(-1, 2), BAD);
        check.refused("spoil(0, 256)", x, () -> x.spoil(0, 256), BAD);
        check.refused("spoil(0, -1)", x, () -> x.spoil(0, -1), BAD);
        TomorrowPage y = Check.town("d00000000o0000g1010");
        check.due("another one makes it so", y.spoil(0, 1), 0);
        check.due("another one has a part", y.spoil(1, 1), 1);
        TomorrowPage none = new TomorrowPage();
        check.refused("spoil(0, 0) without PEOPLE", none, () -> none.spoil(0, 0), BAD);
    }

    private static void edit() {
        check.part("35 edit");
        TomorrowPage x = Check.town("d00000000r0000o1100o2200o1100");
        check.due("edit(6, 6)", x, x.edit(6, 6), 2, 6);
        check.due("edit(2, 255)", x, x.edit(2, 255), 1, 2);
        check.due("edit(1, 1)", x, x.edit(1, 1), NONE, 2);
        check.due("edit(128, 128)", x, x.edit(128, 128), NONE, 2);
        check.due("edit(7, 0)", x, x.edit(7, 0), 0, 0);
        check.due("edit(0, 255)", x, x.edit(0, 255), 0, 0);
        TomorrowPage all = Check.town("d00000000o0000o1100");
        check.due("by all", all, all.edit(3, 3), 2, 3);
        TomorrowPage none = new TomorrowPage();
        none.yesterday(6);
        check.due("as YESTERDAY, without PEOPLE", none, none.edit(3, 2), 0, 0);
        check.due("otherwise, without PEOPLE", none, none.edit(3, 3), NONE, 0);
        check.refused("edit(256, 0)", x, () -> x.edit(256, 0), BAD);
        check.refused("edit(-1, 0)", x, () -> x.edit(-1, 0), BAD);
        check.refused("edit(0, 256)", x, () -> x.edit(0, 256), BAD);
        check.refused("edit(0, -1)", x, () -> x.edit(0, -1), BAD);
    }

    private static void choose() {
        check.part("36 choose");
        TomorrowPage x = Check.town("d00000000o0000o1100");
        check.due("choose(3, 0, 255)", x.choose(3, 0, 255), 0);
        check.due("choose(3, 2, 2)", x.choose(3, 2, 2), 2);
        check.due("choose(3, 3, 255)", x.choose(3, 3, 255), 3);
        check.due("choose(1, 2, 2)", x.choose(1, 2, 2), NONE);
        check.due("asked()", x.asked(), 0);
        check.refused("choose(4, 0, 0)", x, () -> x.choose(4, 0, 0), BAD);
        check.refused("choose(-1, 0, 0)", x, () -> x.choose(-1, 0, 0), BAD);
        check.refused("choose(0, 256, 0)", x, () -> x.choose(0, 256, 0), BAD);
        check.refused("choose(0, 0, 256)", x, () -> x.choose(0, 0, 256), BAD);
    }

    private static void lead() {
        check.part("37 lead");
        TomorrowPage x = Check.town("d00000000r0010o1100o2200");
        x.row(0, 3);
        check.due("lead(1, 0, 0)", x.lead(1, 0, 0), 0);
        rowIs(x, 0);
        check.due("lead(1, 1, 0)", x.lead(1, 1, 0), 1);
        rowIs(x, 0, 1001);
        check.due("lead(2, 255, 0)", x.lead(2, 255, 0), 1);
        rowIs(x, 0, 1003);
        check.due("lead(4, 4, 5)", x.lead(4, 4, 5), 1);
        rowIs(x, 5, 2005);
        rowIs(x, 0, 1003);
        check.due("asked()", x.asked(), 1003);
        check.due("count(2)", x.count(2), 0);
        check.due("count(1)", x.count(1), 0);
        check.due("not by one alone", x.lead(6, 6, 0), NONE);
        check.due("what nobody does", x.lead(8, 8, 1), NONE);
        rowIs(x, 0, 1003);
        check.due("count(6)", x.count(6), 2);
        check.refused("lead(256, 0, 0)", x, () -> x.lead(256, 0, 0), BAD);
        check.refused("lead(-1, 0, 0)", x, () -> x.lead(-1, 0, 0), BAD);
        check.refused("lead(0, 256, 0)", x, () -> x.lead(0, 256, 0), BAD);
        check.refused("lead(0, -1, 0)", x, () -> x.lead(0, -1, 0), BAD);
        check.refused("lead(0, 0, 6)", x, () -> x.lead(0, 0, 6), BAD);
        check.refused("lead(0, 0, -1)", x, () -> x.lead(0, 0, -1), BAD);
        x.yesterday(128);
        check.due("reach()", x.reach(), 4);
        x.yesterday(5);
        check.due("lead(128, 128, 0)", x.lead(128, 128, 0), NONE);
        TomorrowPage liar = Check.town("d00000000r0010");
        check.due("by nobody", liar.lead(1, 1, 0), 1);
        rowIs(liar, 0, 9001);
        for (int day = 0; day < 40; day++) {
            liar.print(1, 0);
        }
        liar.yesterday(0);
        check.due("behind 40 DAYS", liar.lead(1, 1, 0), 1);
        TomorrowPage none = new TomorrowPage();
        check.refused("lead(0, 0, 0) without PEOPLE", none, () -> none.lead(0, 0, 0), STATE);
        check.refused("lead(0, 0, 6) without PEOPLE", none, () -> none.lead(0, 0, 6), BAD);
    }

    private static void reach() {
        check.part("38 reach");
        TomorrowPage x = Check.town("d00000000r0010o1100o2200");
        check.due("reach()", x, x.reach(), 4, 5);
        x.yesterday(128);
        check.due("reach()", x, x.reach(), 4, 133);
        x.yesterday(5);
        check.due("reach()", x, x.reach(), 3, 5);
        TomorrowPage y = Check.town("d11111111r0000");
        check.due("YESTERDAY is the greatest", y, y.reach(), 2, 255);
        TomorrowPage none = new TomorrowPage();
        none.yesterday(3);
        check.due("without PEOPLE", none, none.reach(), 1, 3);
    }

    private static void bet() {
        check.part("39 bet");
        TomorrowPage x = Check.town("d00000000o0003r0003s0000g0006l0002f0006");
        int[] due = {58, 58, 42, 41, 41, 41, 41};
        int[] many = {4, 4, 3, 3, 3, 3, 3};
        for (int number = 0; number <= 6; number++) {
            check.due("bet(" + number + ")", x, x.bet(number), due[number], many[number]);
        }
        check.refused("bet(7)", x, () -> x.bet(7), BAD);
        check.refused("bet(-1)", x, () -> x.bet(-1), BAD);
        check.due("without PEOPLE", new TomorrowPage().bet(0), 0);
    }

    private static void numbers() {
        check.part("40 numbers");
        TomorrowPage x = Check.town("d00000000o0003r0003s0000g0006l0002f0006");
        check.due("numbers()", x, x.numbers(), 8, 1);
        TomorrowPage two = Check.town("d00000000o0001o0002");
        check.due("0, 1, 2", two, two.numbers(), 7, 3);
        TomorrowPage none = Check.town("d00000000r0001");
        check.due("none", none, none.numbers(), 0, 0);
        TomorrowPage nobody = new TomorrowPage();
        check.due("without PEOPLE", nobody, nobody.numbers(), 1, 1);
        TomorrowPage six = Check.town("d00000000g0000g0000g0000g0000g0000g0000");
        check.due("6", six, six.numbers(), 64, 1);
    }

    private static void nerve() {
        check.part("41 nerve");
        TomorrowPage x = Check.town("d00000000o0003r0003s0000g0006l0002f0006");
        x.agrees(7, 0);
        check.due("none is due", x, x.nerve(), 0, 0);
        TomorrowPage second = Check.town("d00000000g1100r0002");
        check.due("the second one", second, second.nerve(), 1, 1);
        TomorrowPage two = Check.town("d00000000o0003r0004r0004r0004o0003");
        check.due("by two", two, two.nerve(), 2, 1);
        check.due("person(1, 4)", two, two.person(1, 4), 1, 4);
        TomorrowPage six = Check.town("d00000000g0001o0005o0000g0005r0006g0006");
        check.due("up to 6", six, six.nerve(), 1, 1);
        TomorrowPage none = Check.town("d00000000r0002r0002r0002r0002");
        none.person(0, 4);
        check.due("none by one alone", none, none.nerve(), NONE, 2);
        TomorrowPage nobody = new TomorrowPage();
        check.due("without PEOPLE", nobody, nobody.nerve(), NONE, 0);
    }

    private static void luck() {
        check.part("42 luck");
        TomorrowPage x = Check.town("d00000000r0010o1100");
        check.due("luck(2, 1)", x.luck(2, 1), 1);
        check.due("count(1)", x.count(1), 2);
        check.due("count(2)", x.count(2), 1);
        check.due("person(0, 5)", x, x.person(0, 5), 1, 0);
        check.due("person(1, 5)", x, x.person(1, 5), 1, 1);
        check.due("luck(1, 17)", x.luck(1, 17), 1);
        check.due("count(2)", x.count(2), 3);
        check.due("undo(1)", x.undo(1), 2);
        check.due("person(1, 5)", x, x.person(1, 5), 1, 1);
        check.refused("luck(0, 1)", x, () -> x.luck(0, 1), BAD);
        check.refused("luck(-1, 1)", x, () -> x.luck(-1, 1), BAD);
        check.refused("luck(41, 1)", x, () -> x.luck(41, 1), BAD);
        check.refused("luck(1, 0)", x, () -> x.luck(1, 0), BAD);
        check.refused("luck(1, -1)", x, () -> x.luck(1, -1), BAD);
        check.refused("luck(1, MAX)", x, () -> x.luck(1, MAX), BAD);
        check.refused("luck(40, 1)", x, () -> x.luck(40, 1), FULL);
        check.due("luck(39, MAX - 1) goes", x.luck(39, MAX - 1) >= 0 ? 1 : 0, 1);
        check.due("count(1)", x.count(1), 40);
        check.refused("luck(1, 1)", x, () -> x.luck(1, 1), FULL);
        TomorrowPage none = new TomorrowPage();
        check.refused("luck(1, 1) without PEOPLE", none, () -> none.luck(1, 1), STATE);
        check.refused("luck(0, 1) without PEOPLE", none, () -> none.luck(0, 1), BAD);
    }

    private static void asked() {
        check.part("43 asked");
        TomorrowPage x = Check.town("d00000000o0001r1110");
        check.due("asked() before", x.asked(), 0);
        x.person(0, 4);
        int before = x.asked();
        check.due("asked()", before, 1);
        x.row(0, 2);
        x.copy(0, 0, 0, 0, 2);
        x.tear(0);
        x.fault(3);
        x.mark(1, 1);
        x.habit(0, 0);
        x.yesterday(0);
        x.day(3, 1);
        x.print(2, 0);
        x.undo(0);
        x.keep(0);
        x.on(0);
        x.nth(0, 0);
        x.odds(0, 0);
        x.holds(0, 2);
        x.spoil(0, 2);
        x.choose(1, 1, 1);
        x.lead(2, 2, 0);
        x.luck(1, 1);
        x.count(0);
        x.findings(1);
        x.digest();
        x.town(3);
        check.due("asked() behind calls that tell nothing", x.asked(), before);
    }

    private static void upperAndLower() {
        check.part("44 upper, 45 lower");
        TomorrowPage x = Check.town("d00000000o0000r1100");
        check.due("upper() before", x.upper(), 0);
        check.due("lower() before", x.lower(), 1);
        oddsAre(x, "odds(1, 0)", x.odds(1, 0), 1, 2);
        check.found("odds(2, 0)", x, () -> x.odds(2, 0), NOUGHT);
        oddsAre(x, "holds(1, 0)", x.holds(1, 0), 0, 1);
        oddsAre(x, "holds(0, 0)", x.holds(0, 0), 1, 2);
        check.found("holds(0, 255)", x, () -> x.holds(0, 255), NOUGHT);
        check.due("upper()", x.upper(), 1);
        check.due("lower()", x.lower(), 2);
    }

    private static void count() {
        check.part("46 count");
        TomorrowPage x = Check.town("d10000000o0000r1100l2100g3200f4200s5200");
        x.row(0, 1);
        x.row(3, 0);
        x.text(0, 5);
        x.keep(2);
        x.print(0, 0);
        int[] due = {6, 1, 0, 2, 2, 3, 2, 2, 1};
        for (int what = 0; what <= 8; what++) {
            check.due("count(" + what + ")", x.count(what), due[what]);
        }
        check.refused("count(9)", x, () -> x.count(9), BAD);
        check.refused("count(-1)", x, () -> x.count(-1), BAD);
    }

    private static void findings() {
        check.part("47 finding, 48 findings");
        TomorrowPage x = Check.town("d00000000r0000");
        x.at(0, 0);
        check.due("finding()", x.finding(), NOTHING);
        x.row(0, 0);
        x.at(0, 0);
        x.at(0, 0);
        check.due("finding()", x.finding(), BEYOND);
        x.mark(0, 2);
        check.due("finding()", x.finding(), UNLIKE);
        x.sure(1);
        check.due("finding()", x.finding(), NOUGHT);
        x.row(0, -1);
        check.due("finding()", x.finding(), SIZE);
        x.row(0, 99);
        x.print(9, 0);
        check.due("finding()", x.finding(), SIZE);
        int[] due = {0, 1, 2, 1, 1, 1};
        for (int f = 1; f <= 5; f++) {
            check.due("findings(" + f + ")", x.findings(f), due[f]);
        }
        check.refused("findings(0)", x, () -> x.findings(0), BAD);
        check.refused("findings(6)", x, () -> x.findings(6), BAD);
        check.refused("findings(-1)", x, () -> x.findings(-1), BAD);
    }

    private static long fold(long before, long... values) {
        long h = before;
        for (long v : values) {
            h = 31 * h + v;
        }
        return h;
    }

    private static void digest() {
        check.part("49 digest");
        TomorrowPage x = new TomorrowPage();
        long empty = fold(17, 0, 0, 0, 0, 0, 0, 0, 0, 0, -1, -1, -1, -1, -1, -1, -1, -1, -1, -1, -1, -1, -1);
        check.due("digest() of a new object", x.digest(), empty);
        Check.write(x, 1, "d00000001o0000l1215");
        x.town(1);
        x.print(132, 0);
        x.keep(1);
        x.print(133, 1);
        x.row(0, 2);
        x.lay(0, 1, -5);
        x.row(5, 0);
        x.text(3, 1);
        x.put(3, 0, 200);
        int asked = x.asked();
        long h = fold(17, 2, 2, 133, 1, 0, 2, 2, 2, 1);
        h = fold(h, 0, 0, 0, 0, 0, 1, 4, 1, 2, 1, 5, 0);
        h = fold(h, 0, 1);
        h = fold(h, -1, 1, -1);
        h = fold(h, 2, 0, -5, -1, -1, -1, -1, 0);
        h = fold(h, -1, 19);
        for (char sign : "d00000001o0000l1215".toCharArray()) {
            h = fold(h, sign);
        }
        h = fold(h, -1, 1, (byte) 200);
        check.due("digest()", x.digest(), h);
        check.due("asked() behind digest()", x.asked(), asked);
    }
}
