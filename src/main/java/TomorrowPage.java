/** Tomorrow's paper, page seven: pages that are true of the day in which told people have read them. */
public final class TomorrowPage {
    public static final int BAD = -1, FULL = -2, FINDING = -3, STATE = -4, SPENT = -6, NONE = -9;

    private static final int NOTHING = 1, BEYOND = 2, UNLIKE = 3, NOUGHT = 4, SIZE = 5;
    private static final int ROWS = 6, PLACES = 40, TEXTS = 4, BYTES = 80, TOWNS = 3;
    private static final int FACTS = 8, PAGES = 256, PEOPLE = 6, DAYS = 40, COUNTS = 9;
    private static final int REBEL = 1, STAYER = 2, GAMBLER = 3, SLY = 4, FOOL = 5;
    private static final int KIND = 0, WATCHES = 1, DOES = 2, HABIT = 3, NERVE = 4, READ = 5, TRAITS = 6;
    private static final int MOST_NERVE = 6, MOST_LED = 4, NOBODY = 9;
    private static final int BLANK = 32, FIGURE_0 = 48, LETTER_D = 100;
    private static final int[] LETTERS = {111, 114, 115, 103, 108, 102};
    private static final int[] LAST_FIGURE = {7, 7, 1, 6};
    private static final long LOT_FACTOR = 48271, LOT_MODULUS = 2147483647;

    private final Row[] rows = new Row[ROWS];
    private final Text[] texts = new Text[TEXTS];
    private final Town here = new Town();
    private final Town[] keptTowns = new Town[TOWNS];
    private final Scan scan = new Scan();
    private final Agreeing agreeing = new Agreeing();
    private final Walk walk = new Walk();
    private final int[] timesFound = new int[SIZE + 1];
    private int latestFinding = 0;
    private int told = 0;
    private long oddsUpper = 0;
    private long oddsLower = 1;

    public TomorrowPage() {
        for (int r = 0; r < ROWS; r++) {
            rows[r] = new Row();
        }
        for (int t = 0; t < TEXTS; t++) {
            texts[t] = new Text();
        }
        for (int k = 0; k < TOWNS; k++) {
            keptTowns[k] = new Town();
        }
    }

    // ---- 1 rows, texts, towns

    public int row(int r, int n) {
        if (!isRow(r) || n > PLACES) {
            return BAD;
        }
        if (n < 0) {
            return refuse(SIZE);
        }
        rows[r].begin(n);
        return n;
    }

    public int lay(int r, int i, int v) {
        if (!isRow(r)) {
            return BAD;
        }
        Row row = rows[r];
        if (!row.there) {
            return refuse(NOTHING);
        }
        if (!row.has(i, 1)) {
            return refuse(BEYOND);
        }
        told = row.places[i];
        row.places[i] = v;
        return 1;
    }

    public int at(int r, int i) {
        if (!isRow(r)) {
            return BAD;
        }
        Row row = rows[r];
        if (!row.there) {
            return refuse(NOTHING);
        }
        if (!row.has(i, 1)) {
            return refuse(BEYOND);
        }
        told = row.places[i];
        return 1;
    }

    public int tear(int r) {
        if (!isRow(r)) {
            return BAD;
        }
        if (!rows[r].there) {
            return refuse(NOTHING);
        }
        rows[r].there = false;
        return 1;
    }

    public int copy(int r, int i, int to, int j, int n) {
        if (!isRow(r) || !isRow(to)) {
            return BAD;
        }
        if (n < 0) {
            return refuse(SIZE);
        }
        if (!rows[r].there || !rows[to].there) {
            return refuse(NOTHING);
        }
        if (!rows[r].has(i, n) || !rows[to].has(j, n)) {
            return refuse(BEYOND);
        }
        System.arraycopy(rows[r].places, i, rows[to].places, j, n);
        return 1;
    }

    public int mean(int r) {
        if (!isRow(r)) {
            return BAD;
        }
        Row row = rows[r];
        if (!row.there) {
            return refuse(NOTHING);
        }
        if (row.size <= 0) {
            return refuse(NOUGHT);
        }
        told = (int) (row.sum() / row.size);
        return 1;
    }

    public int text(int t, int n) {
        if (!isText(t) || n > BYTES) {
            return BAD;
        }
        if (n < 0) {
            return refuse(SIZE);
        }
        texts[t].begin(n);
        return n;
    }

    public int put(int t, int i, int v) {
        if (!isText(t)) {
            return BAD;
        }
        Text text = texts[t];
        if (!text.there) {
            return refuse(NOTHING);
        }
        if (i < 0 || i >= text.size) {
            return refuse(BEYOND);
        }
        int before = text.bytes[i];
        text.bytes[i] = (byte) v;
        return before + 1000;
    }

    public int fault(int t) {
        if (!isText(t)) {
            return BAD;
        }
        if (!texts[t].there) {
            return refuse(NOTHING);
        }
        return scan.firstFault(texts[t]);
    }

    public int town(int t) {
        if (!isText(t)) {
            return BAD;
        }
        if (!texts[t].there) {
            return refuse(NOTHING);
        }
        if (scan.firstFault(texts[t]) != NONE) {
            return STATE;
        }
        here.become(scan.draft);
        for (int k = 0; k < TOWNS; k++) {
            keptTowns[k].there = false;
        }
        return here.people;
    }

    public int person(int x, int what) {
        if (!here.isPerson(x) || what < 0 || what >= TRAITS) {
            return BAD;
        }
        told = here.trait(x, what);
        return 1;
    }

    public int mark(int x, int kind) {
        if (!here.isPerson(x) || kind < REBEL || kind > FOOL) {
            return BAD;
        }
        if (!here.isOf(x, kind)) {
            return refuse(UNLIKE);
        }
        switch (kind) {
            case REBEL:
                return here.othersWhoDo(x, here.trait(x, WATCHES));
            case STAYER:
                return here.yesterday >> here.trait(x, WATCHES) & 1;
            case GAMBLER:
                return here.othersWhoDo(x, here.trait(x, DOES));
            case SLY:
                agreeing.gather(here, 1 << x);
                return agreeing.size;
            default:
                return here.makesSo(x, 0, 1 << x) ? 1 : 0;
        }
    }

    public int habit(int x, int v) {
        if (!here.isPerson(x) || v < 0 || v > 1) {
            return BAD;
        }
        int before = here.trait(x, HABIT);
        here.setTrait(x, HABIT, v);
        return before;
    }

    public int yesterday(int day) {
        if (!isPage(day)) {
            return BAD;
        }
        int before = here.yesterday;
        here.yesterday = day;
        return before;
    }

    // ---- 2 pages, days

    public int day(int page, int readers) {
        if (!isPage(page) || !here.isSet(readers)) {
            return BAD;
        }
        return here.dayOf(page, readers);
    }

    public int agrees(int page, int readers) {
        if (!isPage(page) || !here.isSet(readers)) {
            return BAD;
        }
        told = page ^ here.dayOf(page, readers);
        return told == 0 ? 1 : 0;
    }

    public int print(int page, int readers) {
        if (!isPage(page) || !here.isSet(readers)) {
            return BAD;
        }
        if (here.people == 0 || !here.fits(page, readers)) {
            return STATE;
        }
        if (here.days >= DAYS) {
            return FULL;
        }
        here.goBy(page, readers);
        return here.days;
    }

    public int undo(int n) {
        if (n < 0 || n > here.days) {
            return BAD;
        }
        int undone = here.days - n;
        here.goBack(n);
        return undone;
    }

    public int keep(int k) {
        if (!isKeptPlace(k)) {
            return BAD;
        }
        if (here.people == 0) {
            return STATE;
        }
        keptTowns[k].become(here);
        keptTowns[k].there = true;
        return here.days;
    }

    public int on(int k) {
        if (!isKeptPlace(k)) {
            return BAD;
        }
        if (!keptTowns[k].there) {
            return refuse(NOTHING);
        }
        here.become(keptTowns[k]);
        return here.days;
    }

    // ---- 3 which pages

    public int pages(int readers) {
        if (!here.isSet(readers)) {
            return BAD;
        }
        return tellAgreeing(readers, 0, 0);
    }

    public int nth(int i, int readers) {
        if (i < 0 || !here.isSet(readers)) {
            return BAD;
        }
        agreeing.gather(here, readers);
        if (i >= agreeing.size) {
            return refuse(NOUGHT);
        }
        return agreeing.page[i];
    }

    public int sure(int readers) {
        if (!here.isSet(readers)) {
            return BAD;
        }
        agreeing.gather(here, readers);
        if (agreeing.size == 0) {
            return refuse(NOUGHT);
        }
        told = agreeing.soOnNone();
        return agreeing.soOnAll();
    }

    public int torn(int readers, int seen, int page) {
        if (!here.isSet(readers) || !isPage(seen) || !isPage(page)) {
            return BAD;
        }
        return tellAgreeing(readers, seen, page);
    }

    public int look(int readers, int seen, int page) {
        if (!here.isSet(readers) || !isPage(seen) || !isPage(page)) {
            return BAD;
        }
        agreeing.gather(here, readers);
        if (agreeing.howMany(seen, page) == 0) {
            return refuse(NOUGHT);
        }
        int best = NONE;
        int fewest = PAGES + 1;
        for (int fact = 0; fact < FACTS; fact++) {
            int bit = 1 << fact;
            if ((seen & bit) == 0) {
                int so = agreeing.howMany(seen | bit, page | bit);
                int not = agreeing.howMany(seen | bit, page & ~bit);
                if (Math.max(so, not) < fewest) {
                    fewest = Math.max(so, not);
                    best = fact;
                }
            }
        }
        if (best != NONE) {
            told = fewest;
        }
        return best;
    }

    public int odds(int readers, int fact) {
        if (!here.isSet(readers) || fact < 0 || fact >= FACTS) {
            return BAD;
        }
        agreeing.gather(here, readers);
        if (agreeing.size == 0) {
            return refuse(NOUGHT);
        }
        tellOdds(agreeing.howMany(1 << fact, 1 << fact), agreeing.size);
        return 1;
    }

    // ---- 4 who reads

    public int mustNot() {
        int bits = 0;
        for (int x = 0; x < here.people; x++) {
            agreeing.gather(here, 1 << x);
            if (agreeing.size == 0) {
                bits |= 1 << x;
            }
        }
        told = Integer.bitCount(bits);
        return bits;
    }

    public int most() {
        for (int many = here.people; many > 0; many--) {
            int readers = leastReaders(many, 0, 0);
            if (readers != NONE) {
                told = readers;
                return many;
            }
        }
        told = 0;
        return 0;
    }

    public int who(int day) {
        if (!isPage(day)) {
            return BAD;
        }
        told = here.fits(day, 0) ? 1 : 0;
        return aloneWith(day);
    }

    public int sets(int day) {
        if (!isPage(day)) {
            return BAD;
        }
        int many = 0;
        int least = NONE;
        for (int readers = 0; readers < here.setsOfPeople(); readers++) {
            if (here.fits(day, readers)) {
                if (many == 0) {
                    least = readers;
                }
                many++;
            }
        }
        told = least;
        return many;
    }

    public int holds(int x, int day) {
        if (!here.isPerson(x) || !isPage(day)) {
            return BAD;
        }
        int alone = aloneWith(day);
        int likely = Integer.bitCount(alone) + (here.fits(day, 0) ? 1 : 0);
        if (likely == 0) {
            return refuse(NOUGHT);
        }
        tellOdds(alone >> x & 1, likely);
        return 1;
    }

    public int halves(int x, int sees, int y, int seesOther) {
        if (!here.isPerson(x) || !here.isPerson(y) || x == y) {
            return BAD;
        }
        if (!isPage(sees) || !isPage(seesOther)) {
            return BAD;
        }
        int readers = 0;
        if ((sees >> here.trait(x, WATCHES) & 1) == 1) {
            readers |= 1 << x;
        }
        if ((seesOther >> here.trait(y, WATCHES) & 1) == 1) {
            readers |= 1 << y;
        }
        return tellAgreeing(readers, 0, 0);
    }

    public int spoil(int x, int page) {
        if (!here.isPerson(x) || !isPage(page)) {
            return BAD;
        }
        if (!here.fits(page, 1 << x)) {
            return STATE;
        }
        return here.aloneDecides(x, page) ? 1 : 0;
    }

    // ---- 5 editors

    public int edit(int facts, int page) {
        if (!isPage(facts) || !isPage(page)) {
            return BAD;
        }
        for (int many = 0; many <= here.people; many++) {
            int readers = leastReaders(many, facts, page);
            if (readers != NONE) {
                told = readers;
                return many;
            }
        }
        return NONE;
    }

    public int choose(int readers, int facts, int page) {
        if (!here.isSet(readers) || !isPage(facts) || !isPage(page)) {
            return BAD;
        }
        agreeing.gather(here, readers);
        return agreeing.first(facts, page);
    }

    public int lead(int facts, int page, int r) {
        if (!isPage(facts) || !isPage(page) || !isRow(r)) {
            return BAD;
        }
        if (here.people == 0) {
            return STATE;
        }
        walk.spread(here, MOST_LED);
        int end = walk.first(facts, page);
        if (end == NONE) {
            return NONE;
        }
        rows[r].begin(walk.length[end]);
        walk.layWay(end, rows[r]);
        return rows[r].size;
    }

    public int reach() {
        walk.spread(here, PAGES);
        told = walk.greatest();
        return walk.size;
    }

    // ---- 6 bets

    public int bet(int number) {
        if (number < 0 || number > MOST_NERVE) {
            return BAD;
        }
        int bits = here.bettors(number, NONE, 0);
        told = Integer.bitCount(bits);
        return bits;
    }

    public int numbers() {
        int bits = here.comingOut(NONE, 0);
        told = Integer.bitCount(bits);
        return bits;
    }

    public int nerve() {
        for (int change = 0; change <= MOST_NERVE; change++) {
            for (int x = 0; x < here.people; x++) {
                if (here.comesOutBy(x, change) || here.comesOutBy(x, -change)) {
                    told = x;
                    return change;
                }
            }
        }
        return NONE;
    }

    // ---- 7 days by lots

    public int luck(int n, int seed) {
        if (n < 1 || n > DAYS || seed < 1 || seed >= LOT_MODULUS) {
            return BAD;
        }
        if (here.people <= 0) {
            return STATE;
        }
        if (here.days + n > DAYS) {
            return FULL;
        }
        int printed = 0;
        long number = seed;
        for (int day = 0; day < n; day++) {
            number = number * LOT_FACTOR % LOT_MODULUS;
            int reader = 1 << (int) (number % here.people);
            agreeing.gather(here, reader);
            if (agreeing.size > 0) {
                here.goBy(agreeing.page[(int) (number / 16 % agreeing.size)], reader);
                printed++;
            } else {
                here.goBy(here.dayOf(0, 0), 0);
            }
        }
        return printed;
    }

    // ---- 8 what is told

    public int asked() {
        return told;
    }

    public long upper() {
        return oddsUpper;
    }

    public long lower() {
        return oddsLower;
    }

    public int count(int what) {
        switch (what) {
            case 0:
                return here.people;
            case 1:
                return here.days;
            case 2:
                return here.yesterday;
            case 3:
                return here.howManyOf(REBEL);
            case 4:
                return here.howManyOf(GAMBLER);
            case 5:
                return Integer.bitCount(here.doneFacts());
            case 6:
                return rowsThere();
            case 7:
                return textsThere();
            case 8:
                return townsKept();
            default:
                return BAD;
        }
    }

    public int finding() {
        return latestFinding;
    }

    public int findings(int f) {
        if (f < NOTHING || f > SIZE) {
            return BAD;
        }
        return timesFound[f];
    }

    public long digest() {
        long h = 17;
        for (int what = 0; what < COUNTS; what++) {
            h = 31 * h + count(what);
        }
        h = here.digestPeopleAndDays(h);
        for (int k = 0; k < TOWNS; k++) {
            h = 31 * h + (keptTowns[k].there ? keptTowns[k].days : -1);
        }
        for (int r = 0; r < ROWS; r++) {
            h = rows[r].digestOn(h);
        }
        for (int t = 0; t < TEXTS; t++) {
            h = texts[t].digestOn(h);
        }
        return h;
    }

    // ---- what the calls share

    private int refuse(int f) {
        latestFinding = f;
        timesFound[f]++;
        return FINDING;
    }

    private static boolean isRow(int r) {
        return r >= 0 && r < ROWS;
    }

    private static boolean isText(int t) {
        return t >= 0 && t < TEXTS;
    }

    private static boolean isKeptPlace(int k) {
        return k >= 0 && k < TOWNS;
    }

    /** Sets of FACTS, PAGES and DAYS are all eight bits. */
    private static boolean isPage(int page) {
        return page >= 0 && page < PAGES;
    }

    /** How many PAGES AGREE that have FACTS of a set as on a PAGE; the least is told. */
    private int tellAgreeing(int readers, int facts, int page) {
        agreeing.gather(here, readers);
        told = agreeing.first(facts, page);
        return agreeing.howMany(facts, page);
    }

    private void tellOdds(int part, int whole) {
        int divisor = commonDivisor(part, whole);
        if (divisor > 0) {
            oddsUpper = part / divisor;
            oddsLower = whole / divisor;
        }
    }

    private static int commonDivisor(int part, int whole) {
        int a = whole;
        int b = part;
        // b falls in each round, and is never above the number of PAGES
        for (int round = 0; round <= PAGES && b > 0; round++) {
            int rest = a % b;
            a = b;
            b = rest;
        }
        return a;
    }

    /** The least set of so many readers that has an agreeing PAGE with FACTS as on a PAGE. */
    private int leastReaders(int many, int facts, int page) {
        for (int readers = 0; readers < here.setsOfPeople(); readers++) {
            if (Integer.bitCount(readers) == many) {
                agreeing.gather(here, readers);
                if (agreeing.first(facts, page) != NONE) {
                    return readers;
                }
            }
        }
        return NONE;
    }

    /** Who, reading a DAY as the PAGE alone, finds it true. */
    private int aloneWith(int day) {
        int bits = 0;
        for (int x = 0; x < here.people; x++) {
            if (here.fits(day, 1 << x)) {
                bits |= 1 << x;
            }
        }
        return bits;
    }

    private int rowsThere() {
        int many = 0;
        for (int r = 0; r < ROWS; r++) {
            if (rows[r].there) {
                many++;
            }
        }
        return many;
    }

    private int textsThere() {
        int many = 0;
        for (int t = 0; t < TEXTS; t++) {
            if (texts[t].there) {
                many++;
            }
        }
        return many;
    }

    private int townsKept() {
        int many = 0;
        for (int k = 0; k < TOWNS; k++) {
            if (keptTowns[k].there) {
                many++;
            }
        }
        return many;
    }

    private static final class Row {
        final int[] places = new int[PLACES];
        int size = 0;
        boolean there = false;

        /** Anew with n places, 0 .. PLACES. */
        void begin(int n) {
            there = true;
            size = n;
            for (int i = 0; i < PLACES; i++) {
                places[i] = 0;
            }
        }

        /** Whether there are n places from one on; written so that nothing runs over. */
        boolean has(int from, int n) {
            return from >= 0 && from <= size && n >= 0 && n <= size - from;
        }

        long sum() {
            long sum = 0;
            for (int i = 0; i < size; i++) {
                sum += places[i];
            }
            return sum;
        }

        long digestOn(long before) {
            if (!there) {
                return 31 * before - 1;
            }
            long h = 31 * before + size;
            for (int i = 0; i < size; i++) {
                h = 31 * h + places[i];
            }
            return h;
        }
    }

    private static final class Text {
        /** What stands beyond the end: no byte has this number. */
        static final int END = 1000;

        final byte[] bytes = new byte[BYTES];
        int size = 0;
        boolean there = false;

        /** Anew with n blanks, 0 .. BYTES. */
        void begin(int n) {
            there = true;
            size = n;
            for (int i = 0; i < BYTES; i++) {
                bytes[i] = BLANK;
            }
        }

        int byteAt(int place) {
            return place >= 0 && place < size ? bytes[place] : END;
        }

        /** The figure 0 .. last at a place; NONE: no such figure is there. */
        int figureAt(int place, int last) {
            int figure = byteAt(place) - FIGURE_0;
            return figure >= 0 && figure <= last ? figure : NONE;
        }

        int behindBlanks(int place) {
            int i = place;
            while (i < size && byteAt(i) == BLANK) {
                i++;
            }
            return i;
        }

        long digestOn(long before) {
            if (!there) {
                return 31 * before - 1;
            }
            long h = 31 * before + size;
            for (int i = 0; i < size; i++) {
                h = 31 * h + bytes[i];
            }
            return h;
        }
    }

    /** Reads a TOWN from a TEXT; the draft is whole only if there was no FAULT. */
    private static final class Scan {
        static final int ITEM = 5;

        final Town draft = new Town();

        int firstFault(Text text) {
            draft.clear();
            int place = text.behindBlanks(0);
            if (text.byteAt(place) != LETTER_D) {
                return place;
            }
            place++;
            for (int fact = 0; fact < FACTS; fact++) {
                int figure = text.figureAt(place, 1);
                if (figure == NONE) {
                    return place;
                }
                draft.yesterday |= figure << fact;
                place++;
            }
            return faultOfPeople(text, text.behindBlanks(place));
        }

        private int faultOfPeople(Text text, int from) {
            int place = from;
            for (int x = 0; x < PEOPLE && place < text.size; x++) {
                int fault = faultOfOne(text, place, x);
                if (fault != NONE) {
                    return fault;
                }
                draft.people = x + 1;
                place = text.behindBlanks(place + ITEM);
            }
            return place < text.size ? place : NONE;
        }

        private int faultOfOne(Text text, int place, int x) {
            int kind = kindByLetter(text.byteAt(place));
            if (kind == NONE) {
                return place;
            }
            draft.setTrait(x, KIND, kind);
            for (int k = 0; k < LAST_FIGURE.length; k++) {
                int figure = text.figureAt(place + 1 + k, LAST_FIGURE[k]);
                if (figure == NONE) {
                    return place + 1 + k;
                }
                draft.setTrait(x, WATCHES + k, figure);
            }
            return NONE;
        }

        private static int kindByLetter(int letter) {
            for (int kind = 0; kind < LETTERS.length; kind++) {
                if (LETTERS[kind] == letter) {
                    return kind;
                }
            }
            return NONE;
        }
    }

    /** PEOPLE, YESTERDAY and the DAYS that went. */
    private static final class Town {
        final int[] traits = new int[PEOPLE * TRAITS];
        final int[] readersOfDay = new int[DAYS];
        final int[] aheadOfDay = new int[DAYS];
        int people = 0;
        int yesterday = 0;
        int days = 0;
        boolean there = false;

        void clear() {
            for (int i = 0; i < traits.length; i++) {
                traits[i] = 0;
            }
            people = 0;
            yesterday = 0;
            days = 0;
        }

        void become(Town other) {
            System.arraycopy(other.traits, 0, traits, 0, PEOPLE * TRAITS);
            System.arraycopy(other.readersOfDay, 0, readersOfDay, 0, DAYS);
            System.arraycopy(other.aheadOfDay, 0, aheadOfDay, 0, DAYS);
            people = other.people;
            yesterday = other.yesterday;
            days = other.days;
        }

        boolean isPerson(int x) {
            return x >= 0 && x < people;
        }

        int setsOfPeople() {
            return 1 << people;
        }

        boolean isSet(int readers) {
            return readers >= 0 && readers < setsOfPeople();
        }

        int trait(int x, int what) {
            return traits[x * TRAITS + what];
        }

        void setTrait(int x, int what, int v) {
            traits[x * TRAITS + what] = v;
        }

        boolean isOf(int x, int kind) {
            int own = trait(x, KIND);
            return own == kind || own == SLY && kind == REBEL || own == FOOL && kind == GAMBLER;
        }

        int howManyOf(int kind) {
            int many = 0;
            for (int x = 0; x < people; x++) {
                if (isOf(x, kind)) {
                    many++;
                }
            }
            return many;
        }

        int othersWhoDo(int x, int fact) {
            int many = 0;
            for (int y = 0; y < people; y++) {
                if (y != x && trait(y, DOES) == fact) {
                    many++;
                }
            }
            return many;
        }

        int doneFacts() {
            int bits = 0;
            for (int x = 0; x < people; x++) {
                bits |= 1 << trait(x, DOES);
            }
            return bits;
        }

        /** Whether one makes so what that one DOES. */
        boolean makesSo(int x, int page, int readers) {
            boolean byHabit = trait(x, HABIT) == 1;
            if ((readers >> x & 1) == 0) {
                return byHabit;
            }
            boolean isSo = (page >> trait(x, WATCHES) & 1) == 1;
            switch (trait(x, KIND)) {
                case REBEL:
                    return !isSo;
                case STAYER:
                    return !isSo && byHabit;
                case GAMBLER:
                    return isSo || byHabit;
                case SLY:
                    return isSo != ((readers & ~(1 << x)) != 0);
                case FOOL:
                    return !isSo || byHabit;
                default:
                    return isSo;
            }
        }

        /** THE DAY of a PAGE, if another DAY were YESTERDAY. */
        int dayBehind(int before, int page, int readers) {
            int done = 0;
            int so = 0;
            for (int x = 0; x < people; x++) {
                int bit = 1 << trait(x, DOES);
                done |= bit;
                if (makesSo(x, page, readers)) {
                    so |= bit;
                }
            }
            return before & ~done | so;
        }

        int dayOf(int page, int readers) {
            return dayBehind(yesterday, page, readers);
        }

        boolean fits(int page, int readers) {
            return dayBehind(yesterday, page, readers) == page;
        }

        /** Nobody else makes so what one DOES who reads alone: it is as that one does. */
        boolean aloneDecides(int x, int page) {
            for (int y = 0; y < people; y++) {
                if (y != x && trait(y, DOES) == trait(x, DOES) && makesSo(y, page, 1 << x)) {
                    return false;
                }
            }
            return true;
        }

        void goBy(int day, int readers) {
            if (days >= DAYS) {
                return;
            }
            readersOfDay[days] = readers;
            aheadOfDay[days] = yesterday;
            countRead(readers, 1);
            yesterday = day;
            days++;
        }

        void goBack(int n) {
            for (int day = days - 1; day >= n; day--) {
                countRead(readersOfDay[day], -1);
                yesterday = aheadOfDay[day];
                days = day;
            }
        }

        private void countRead(int readers, int more) {
            for (int x = 0; x < people; x++) {
                if ((readers >> x & 1) == 1) {
                    setTrait(x, READ, trait(x, READ) + more);
                }
            }
        }

        /** Who bet, if the NERVE of one were changed. */
        int bettors(int number, int changed, int change) {
            int bits = 0;
            for (int x = 0; x < people; x++) {
                int nerve = trait(x, NERVE) + (x == changed ? change : 0);
                if (bets(x, number, nerve)) {
                    bits |= 1 << x;
                }
            }
            return bits;
        }

        private boolean bets(int x, int number, int nerve) {
            switch (trait(x, KIND)) {
                case REBEL:
                case SLY:
                    return number < nerve;
                case STAYER:
                    return false;
                case GAMBLER:
                case FOOL:
                    return true;
                default:
                    return number >= nerve;
            }
        }

        /** Numbers that COME OUT, if the NERVE of one were changed. */
        int comingOut(int changed, int change) {
            int bits = 0;
            for (int number = 0; number <= MOST_NERVE; number++) {
                if (Integer.bitCount(bettors(number, changed, change)) == number) {
                    bits |= 1 << number;
                }
            }
            return bits;
        }

        boolean comesOutBy(int x, int change) {
            int nerve = trait(x, NERVE) + change;
            return nerve >= 0 && nerve <= MOST_NERVE && comingOut(x, change) != 0;
        }

        long digestPeopleAndDays(long before) {
            long h = before;
            for (int x = 0; x < people; x++) {
                for (int what = 0; what < TRAITS; what++) {
                    h = 31 * h + trait(x, what);
                }
            }
            for (int day = 0; day < days; day++) {
                h = 31 * h + readersOfDay[day];
            }
            return h;
        }
    }

    /** The PAGES that AGREE with a set of readers, by numbers. */
    private static final class Agreeing {
        final int[] page = new int[PAGES];
        int size = 0;

        void gather(Town town, int readers) {
            size = 0;
            // FACTS that nobody DOES stay: a PAGE that has them otherwise needs no trying
            int idle = ~town.doneFacts();
            for (int p = 0; p < PAGES; p++) {
                if (((p ^ town.yesterday) & idle) == 0 && town.fits(p, readers)) {
                    page[size] = p;
                    size++;
                }
            }
        }

        private boolean isAs(int i, int facts, int like) {
            return ((page[i] ^ like) & facts) == 0;
        }

        /** The least one with FACTS of a set as on a PAGE; NONE. */
        int first(int facts, int like) {
            for (int i = 0; i < size; i++) {
                if (isAs(i, facts, like)) {
                    return page[i];
                }
            }
            return NONE;
        }

        int howMany(int facts, int like) {
            int many = 0;
            for (int i = 0; i < size; i++) {
                if (isAs(i, facts, like)) {
                    many++;
                }
            }
            return many;
        }

        int soOnAll() {
            int bits = PAGES - 1;
            for (int i = 0; i < size; i++) {
                bits &= page[i];
            }
            return bits;
        }

        int soOnNone() {
            int bits = PAGES - 1;
            for (int i = 0; i < size; i++) {
                bits &= ~page[i];
            }
            return bits;
        }
    }

    /**
     * DAYS to which one comes by readers alone, or nobody, from YESTERDAY on. They stand by the length of the
     * shortest way, alike ones by the numbers on their first way: each is taken from the ones ahead of it in
     * that order, and by rising numbers.
     */
    private static final class Walk {
        final int[] day = new int[PAGES];
        final int[] from = new int[PAGES];
        final int[] step = new int[PAGES];
        final int[] length = new int[PAGES];
        final boolean[] seen = new boolean[PAGES];
        int size = 0;

        void spread(Town town, int mostDays) {
            size = 0;
            for (int d = 0; d < PAGES; d++) {
                seen[d] = false;
            }
            add(town.yesterday, 0, 0, 0);
            for (int i = 0; i < PAGES && i < size; i++) {
                if (length[i] < mostDays) {
                    goOn(town, i);
                }
            }
        }

        /** One who reads alone looks at one FACT: only two DAYS can be, that of it not so and that of it so. */
        private void goOn(Town town, int i) {
            for (int x = 0; x < town.people; x++) {
                int notSo = town.dayBehind(day[i], 0, 1 << x);
                int so = town.dayBehind(day[i], PAGES - 1, 1 << x);
                addIfTrue(town, i, x, Math.min(notSo, so));
                addIfTrue(town, i, x, Math.max(notSo, so));
            }
            int byHabits = town.dayBehind(day[i], 0, 0);
            add(byHabits, i, 1000 * NOBODY + byHabits, length[i] + 1);
        }

        private void addIfTrue(Town town, int i, int x, int page) {
            if (town.dayBehind(day[i], page, 1 << x) == page) {
                add(page, i, 1000 * x + page, length[i] + 1);
            }
        }

        private void add(int to, int i, int number, int far) {
            if (size >= PAGES || seen[to]) {
                return;
            }
            seen[to] = true;
            day[size] = to;
            from[size] = i;
            step[size] = number;
            length[size] = far;
            size++;
        }

        /** The first DAY with FACTS of a set as on a PAGE; NONE. */
        int first(int facts, int page) {
            for (int i = 0; i < size; i++) {
                if (((day[i] ^ page) & facts) == 0) {
                    return i;
                }
            }
            return NONE;
        }

        /** A ROW of the way's length takes its numbers. */
        void layWay(int end, Row row) {
            int i = end;
            for (int k = row.size - 1; k >= 0; k--) {
                row.places[k] = step[i];
                i = from[i];
            }
        }

        int greatest() {
            int greatest = 0;
            for (int i = 0; i < size; i++) {
                greatest = Math.max(greatest, day[i]);
            }
            return greatest;
        }
    }
}
