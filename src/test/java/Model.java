import java.util.ArrayList;
import java.util.Arrays;
import java.util.List;

/**
 * The document once more, written without any thrift: sets as lists, every PAGE and every way tried.
 * ModelTest and GridTest hold the program against it.
 */
final class Model {
    static final int BAD = -1, FULL = -2, FINDING = -3, STATE = -4, NONE = -9;

    static final class One {
        char letter;
        int watches, does, habit, nerve, read;

        One again() {
            One one = new One();
            one.letter = letter;
            one.watches = watches;
            one.does = does;
            one.habit = habit;
            one.nerve = nerve;
            one.read = read;
            return one;
        }
    }

    static final class Place {
        List<One> people = new ArrayList<>();
        int yesterday = 0;
        List<int[]> days = new ArrayList<>();

        Place again() {
            Place place = new Place();
            for (One one : people) {
                place.people.add(one.again());
            }
            place.yesterday = yesterday;
            place.days.addAll(days);
            return place;
        }
    }

    int[][] rows = new int[6][];
    byte[][] texts = new byte[4][];
    Place now = new Place();
    Place[] kept = new Place[3];
    int asked = 0;
    long upper = 0, lower = 1;
    int finding = 0;
    int[] findings = new int[6];

    private int found(int f) {
        finding = f;
        findings[f]++;
        return FINDING;
    }

    private static boolean in(int v, int from, int to) {
        return from <= v && v <= to;
    }

    private boolean one(int x) {
        return in(x, 0, now.people.size() - 1);
    }

    private boolean set(int readers) {
        return in(readers, 0, (1 << now.people.size()) - 1);
    }

    private static boolean page(int... all) {
        for (int p : all) {
            if (!in(p, 0, 255)) {
                return false;
            }
        }
        return true;
    }

    int row(int r, int n) {
        if (!in(r, 0, 5) || n > 40) return BAD;
        if (n < 0) return found(5);
        rows[r] = new int[n];
        return n;
    }

    int lay(int r, int i, int v) {
        if (!in(r, 0, 5)) return BAD;
        if (rows[r] == null) return found(1);
        if (!in(i, 0, rows[r].length - 1)) return found(2);
        asked = rows[r][i];
        rows[r][i] = v;
        return 1;
    }

    int at(int r, int i) {
        if (!in(r, 0, 5)) return BAD;
        if (rows[r] == null) return found(1);
        if (!in(i, 0, rows[r].length - 1)) return found(2);
        asked = rows[r][i];
        return 1;
    }

    int tear(int r) {
        if (!in(r, 0, 5)) return BAD;
        if (rows[r] == null) return found(1);
        rows[r] = null;
        return 1;
    }

    int copy(int r, int i, int to, int j, int n) {
        if (!in(r, 0, 5) || !in(to, 0, 5)) return BAD;
        if (n < 0) return found(5);
        if (rows[r] == null || rows[to] == null) return found(1);
        if (i < 0 || j < 0 || (long) i + n > rows[r].length || (long) j + n > rows[to].length) return found(2);
        int[] ahead = rows[r].clone();
        for (int k = 0; k < n; k++) {
            rows[to][j + k] = ahead[i + k];
        }
        return 1;
    }

    int mean(int r) {
        if (!in(r, 0, 5)) return BAD;
        if (rows[r] == null) return found(1);
        if (rows[r].length == 0) return found(4);
        asked = (int) (Arrays.stream(rows[r]).asLongStream().sum() / rows[r].length);
        return 1;
    }

    int text(int t, int n) {
        if (!in(t, 0, 3) || n > 80) return BAD;
        if (n < 0) return found(5);
        texts[t] = new byte[n];
        Arrays.fill(texts[t], (byte) ' ');
        return n;
    }

    int put(int t, int i, int v) {
        if (!in(t, 0, 3)) return BAD;
        if (texts[t] == null) return found(1);
        if (!in(i, 0, texts[t].length - 1)) return found(2);
        int was = texts[t][i];
        texts[t][i] = (byte) v;
        return was + 1000;
    }

    /** The longest beginning that some TOWN could go on from: the FAULT is its length. */
    static int faultOf(byte[] text) {
        StringBuilder signs = new StringBuilder();
        for (byte b : text) {
            signs.append((char) (b & 255));
        }
        String person = "[orsglf][0-7][0-7][01][0-6]";
        String whole = " *d[01]{8} *(" + person + " *){0,6}";
        if (signs.toString().matches(whole)) return NONE;
        String partPerson = "([orsglf]([0-7]([0-7]([01])?)?)?)?";
        String part = " *|( *d[01]{0,8})|( *d[01]{8} *(" + person + " *){0,6})|( *d[01]{8} *(" + person + " *){0,5}" + partPerson + ")";
        for (int length = signs.length(); length >= 0; length--) {
            if (signs.substring(0, length).matches(part)) return length;
        }
        return 0;
    }

    int fault(int t) {
        if (!in(t, 0, 3)) return BAD;
        if (texts[t] == null) return found(1);
        return faultOf(texts[t]);
    }

    int town(int t) {
        if (!in(t, 0, 3)) return BAD;
        if (texts[t] == null) return found(1);
        if (faultOf(texts[t]) != NONE) return STATE;
        String signs = new String(texts[t], java.nio.charset.StandardCharsets.ISO_8859_1).replace(" ", "");
        now = new Place();
        kept = new Place[3];
        for (int fact = 0; fact < 8; fact++) {
            if (signs.charAt(1 + fact) == '1') now.yesterday += 1 << fact;
        }
        for (int from = 9; from < signs.length(); from += 5) {
            One one = new One();
            one.letter = signs.charAt(from);
            one.watches = signs.charAt(from + 1) - '0';
            one.does = signs.charAt(from + 2) - '0';
            one.habit = signs.charAt(from + 3) - '0';
            one.nerve = signs.charAt(from + 4) - '0';
            now.people.add(one);
        }
        return now.people.size();
    }

    private int trait(int x, int what) {
        One one = now.people.get(x);
        return new int[] {"orsglf".indexOf(one.letter), one.watches, one.does, one.habit, one.nerve, one.read}[what];
    }

    int person(int x, int what) {
        if (!one(x) || !in(what, 0, 5)) return BAD;
        asked = trait(x, what);
        return 1;
    }

    private boolean is(int x, int kind) {
        char letter = now.people.get(x).letter;
        switch (kind) {
            case 1: return letter == 'r' || letter == 'l';
            case 2: return letter == 's';
            case 3: return letter == 'g' || letter == 'f';
            case 4: return letter == 'l';
            default: return letter == 'f';
        }
    }

    int mark(int x, int kind) {
        if (!one(x) || !in(kind, 1, 5)) return BAD;
        if (!is(x, kind)) return found(3);
        One me = now.people.get(x);
        if (kind == 2) return now.yesterday >> me.watches & 1;
        if (kind == 4) return agreeing(1 << x).size();
        if (kind == 5) return 1;
        int many = 0;
        for (One other : now.people) {
            if (other != me && other.does == (kind == 1 ? me.watches : me.does)) many++;
        }
        return many;
    }

    int habit(int x, int v) {
        if (!one(x) || !in(v, 0, 1)) return BAD;
        int was = now.people.get(x).habit;
        now.people.get(x).habit = v;
        return was;
    }

    int yesterday(int day) {
        if (!page(day)) return BAD;
        int was = now.yesterday;
        now.yesterday = day;
        return was;
    }

    /** Whether one makes it so: 0, 1. */
    private int deed(int x, int page, int readers) {
        One one = now.people.get(x);
        if ((readers & 1 << x) == 0) return one.habit;
        int so = page >> one.watches & 1;
        char letter = one.letter;
        if (letter == 'l') letter = Integer.bitCount(readers) > 1 ? 'r' : 'o';
        switch (letter) {
            case 'o': return so;
            case 'r': return 1 - so;
            case 's': return so == 1 ? 0 : one.habit;
            case 'g': return so == 1 ? 1 : one.habit;
            default: return so == 1 ? one.habit : 1;
        }
    }

    private int theDay(int before, int page, int readers, int flipped) {
        int day = 0;
        for (int fact = 0; fact < 8; fact++) {
            boolean done = false;
            boolean so = false;
            for (int x = 0; x < now.people.size(); x++) {
                if (now.people.get(x).does == fact) {
                    done = true;
                    so |= (deed(x, page, readers) == 1) != (x == flipped);
                }
            }
            if (done ? so : (before >> fact & 1) == 1) day += 1 << fact;
        }
        return day;
    }

    private List<Integer> agreeing(int before, int readers) {
        List<Integer> all = new ArrayList<>();
        for (int p = 0; p < 256; p++) {
            if (theDay(before, p, readers, -1) == p) all.add(p);
        }
        return all;
    }

    List<Integer> agreeing(int readers) {
        return agreeing(now.yesterday, readers);
    }

    int day(int page, int readers) {
        if (!page(page) || !set(readers)) return BAD;
        return theDay(now.yesterday, page, readers, -1);
    }

    int agrees(int page, int readers) {
        if (!page(page) || !set(readers)) return BAD;
        int day = day(page, readers);
        asked = day ^ page;
        return day == page ? 1 : 0;
    }

    private void goBy(int day, int readers) {
        now.days.add(new int[] {readers, now.yesterday});
        now.yesterday = day;
        for (int x = 0; x < now.people.size(); x++) {
            if ((readers >> x & 1) == 1) now.people.get(x).read++;
        }
    }

    int print(int page, int readers) {
        if (!page(page) || !set(readers)) return BAD;
        if (now.people.isEmpty() || day(page, readers) != page) return STATE;
        if (now.days.size() == 40) return FULL;
        goBy(page, readers);
        return now.days.size();
    }

    int undo(int n) {
        if (!in(n, 0, now.days.size())) return BAD;
        int many = 0;
        while (now.days.size() > n) {
            int[] day = now.days.remove(now.days.size() - 1);
            now.yesterday = day[1];
            for (int x = 0; x < now.people.size(); x++) {
                if ((day[0] >> x & 1) == 1) now.people.get(x).read--;
            }
            many++;
        }
        return many;
    }

    int keep(int k) {
        if (!in(k, 0, 2)) return BAD;
        if (now.people.isEmpty()) return STATE;
        kept[k] = now.again();
        return now.days.size();
    }

    int on(int k) {
        if (!in(k, 0, 2)) return BAD;
        if (kept[k] == null) return found(1);
        now = kept[k].again();
        return now.days.size();
    }

    int pages(int readers) {
        if (!set(readers)) return BAD;
        List<Integer> all = agreeing(readers);
        asked = all.isEmpty() ? NONE : all.get(0);
        return all.size();
    }

    int nth(int i, int readers) {
        if (!set(readers) || i < 0) return BAD;
        List<Integer> all = agreeing(readers);
        return i < all.size() ? all.get(i) : found(4);
    }

    int sure(int readers) {
        if (!set(readers)) return BAD;
        List<Integer> all = agreeing(readers);
        if (all.isEmpty()) return found(4);
        int always = 0;
        int never = 0;
        for (int fact = 0; fact < 8; fact++) {
            int so = 0;
            for (int p : all) {
                so += p >> fact & 1;
            }
            if (so == all.size()) always += 1 << fact;
            if (so == 0) never += 1 << fact;
        }
        asked = never;
        return always;
    }

    private static boolean alike(int p, int page, int facts) {
        return (p & facts) == (page & facts);
    }

    private List<Integer> left(int readers, int seen, int page) {
        List<Integer> all = agreeing(readers);
        all.removeIf(p -> !alike(p, page, seen));
        return all;
    }

    int torn(int readers, int seen, int page) {
        if (!set(readers) || !page(seen, page)) return BAD;
        List<Integer> all = left(readers, seen, page);
        asked = all.isEmpty() ? NONE : all.get(0);
        return all.size();
    }

    int look(int readers, int seen, int page) {
        if (!set(readers) || !page(seen, page)) return BAD;
        List<Integer> all = left(readers, seen, page);
        if (all.isEmpty()) return found(4);
        int best = NONE;
        int least = 1000;
        for (int fact = 7; fact >= 0; fact--) {
            if ((seen >> fact & 1) == 1) continue;
            int so = 0;
            for (int p : all) {
                so += p >> fact & 1;
            }
            int worst = Math.max(so, all.size() - so);
            if (worst <= least) {
                least = worst;
                best = fact;
            }
        }
        if (best != NONE) asked = least;
        return best;
    }

    private int tell(int part, int whole) {
        for (int d = whole; d >= 1; d--) {
            if (part % d == 0 && whole % d == 0) {
                upper = part / d;
                lower = whole / d;
                return 1;
            }
        }
        throw new IllegalStateException();
    }

    int odds(int readers, int fact) {
        if (!set(readers) || !in(fact, 0, 7)) return BAD;
        List<Integer> all = agreeing(readers);
        if (all.isEmpty()) return found(4);
        int so = 0;
        for (int p : all) {
            so += p >> fact & 1;
        }
        return tell(so, all.size());
    }

    int mustNot() {
        int bits = 0;
        int many = 0;
        for (int x = 0; x < now.people.size(); x++) {
            if (agreeing(1 << x).isEmpty()) {
                bits += 1 << x;
                many++;
            }
        }
        asked = many;
        return bits;
    }

    int most() {
        int best = -1;
        for (int readers = 0; set(readers); readers++) {
            if (Integer.bitCount(readers) > best && !agreeing(readers).isEmpty()) {
                best = Integer.bitCount(readers);
                asked = readers;
            }
        }
        return best;
    }

    int who(int day) {
        if (!page(day)) return BAD;
        int bits = 0;
        for (int x = 0; x < now.people.size(); x++) {
            if (agreeing(1 << x).contains(day)) bits += 1 << x;
        }
        asked = agreeing(0).contains(day) ? 1 : 0;
        return bits;
    }

    int sets(int day) {
        if (!page(day)) return BAD;
        List<Integer> all = new ArrayList<>();
        for (int readers = 0; set(readers); readers++) {
            if (theDay(now.yesterday, day, readers, -1) == day) all.add(readers);
        }
        asked = all.isEmpty() ? NONE : all.get(0);
        return all.size();
    }

    int holds(int x, int day) {
        if (!one(x) || !page(day)) return BAD;
        int before = asked;
        int alone = who(day);
        int nobody = asked;
        asked = before;
        int whole = Integer.bitCount(alone) + nobody;
        return whole == 0 ? found(4) : tell(alone >> x & 1, whole);
    }

    int halves(int x, int sees, int y, int seesOther) {
        if (!one(x) || !one(y) || x == y || !page(sees, seesOther)) return BAD;
        int readers = 0;
        if ((sees & 1 << now.people.get(x).watches) != 0) readers += 1 << x;
        if ((seesOther & 1 << now.people.get(y).watches) != 0) readers += 1 << y;
        return pages(readers);
    }

    int spoil(int x, int page) {
        if (!one(x) || !page(page)) return BAD;
        if (theDay(now.yesterday, page, 1 << x, -1) != page) return STATE;
        return theDay(now.yesterday, page, 1 << x, x) != page ? 1 : 0;
    }

    int edit(int facts, int page) {
        if (!page(facts, page)) return BAD;
        int best = 99;
        int who = 0;
        for (int readers = 0; set(readers); readers++) {
            if (Integer.bitCount(readers) < best && !left(readers, facts, page).isEmpty()) {
                best = Integer.bitCount(readers);
                who = readers;
            }
        }
        if (best == 99) return NONE;
        asked = who;
        return best;
    }

    int choose(int readers, int facts, int page) {
        if (!set(readers) || !page(facts, page)) return BAD;
        List<Integer> all = left(readers, facts, page);
        return all.isEmpty() ? NONE : all.get(0);
    }

    /** All that can come behind a DAY: 1000 times who reads, and THE DAY. */
    private List<Integer> steps(int before) {
        List<Integer> all = new ArrayList<>();
        for (int x = 0; x < now.people.size(); x++) {
            for (int p : agreeing(before, 1 << x)) {
                all.add(1000 * x + p);
            }
        }
        all.add(9000 + theDay(before, 0, 0, -1));
        return all;
    }

    /** The first way of just so many DAYS, in rising numbers; null: there is none. */
    private int[] way(List<List<Integer>> memo, int from, int days, int facts, int page) {
        if (days == 0) return alike(from, page, facts) ? new int[0] : null;
        if (memo.get(from) == null) memo.set(from, steps(from));
        for (int step : memo.get(from)) {
            int[] rest = way(memo, step % 1000, days - 1, facts, page);
            if (rest != null) {
                int[] whole = new int[days];
                whole[0] = step;
                System.arraycopy(rest, 0, whole, 1, days - 1);
                return whole;
            }
        }
        return null;
    }

    int lead(int facts, int page, int r) {
        if (!page(facts, page) || !in(r, 0, 5)) return BAD;
        if (now.people.isEmpty()) return STATE;
        List<List<Integer>> memo = new ArrayList<>();
        for (int p = 0; p < 256; p++) {
            memo.add(null);
        }
        for (int days = 0; days <= 4; days++) {
            int[] found = way(memo, now.yesterday, days, facts, page);
            if (found != null) {
                rows[r] = found;
                return days;
            }
        }
        return NONE;
    }

    int reach() {
        List<Integer> all = new ArrayList<>();
        all.add(now.yesterday);
        for (int i = 0; i < all.size(); i++) {
            for (int step : steps(all.get(i))) {
                if (!all.contains(step % 1000)) all.add(step % 1000);
            }
        }
        asked = java.util.Collections.max(all);
        return all.size();
    }

    private int bettors(int number) {
        int bits = 0;
        for (int x = 0; x < now.people.size(); x++) {
            One one = now.people.get(x);
            boolean bets = one.letter == 'g' || one.letter == 'f'
                || one.letter == 'o' && number >= one.nerve
                || (one.letter == 'r' || one.letter == 'l') && number < one.nerve;
            if (bets) bits += 1 << x;
        }
        return bits;
    }

    int bet(int number) {
        if (!in(number, 0, 6)) return BAD;
        asked = Integer.bitCount(bettors(number));
        return bettors(number);
    }

    private int comingOut() {
        int bits = 0;
        for (int number = 0; number <= 6; number++) {
            if (Integer.bitCount(bettors(number)) == number) bits += 1 << number;
        }
        return bits;
    }

    int numbers() {
        asked = Integer.bitCount(comingOut());
        return comingOut();
    }

    int nerve() {
        if (now.people.isEmpty()) return NONE;
        int best = 99;
        int whose = 0;
        for (int x = 0; x < now.people.size(); x++) {
            One one = now.people.get(x);
            int was = one.nerve;
            for (int other = 0; other <= 6; other++) {
                one.nerve = other;
                if (comingOut() != 0 && Math.abs(other - was) < best) {
                    best = Math.abs(other - was);
                    whose = x;
                }
            }
            one.nerve = was;
        }
        if (best == 99) return NONE;
        asked = whose;
        return best;
    }

    int luck(int n, int seed) {
        if (!in(n, 1, 40) || !in(seed, 1, 2147483646)) return BAD;
        if (now.people.isEmpty()) return STATE;
        if (now.days.size() + n > 40) return FULL;
        int printed = 0;
        java.math.BigInteger lot = java.math.BigInteger.valueOf(seed);
        for (int i = 0; i < n; i++) {
            lot = lot.multiply(java.math.BigInteger.valueOf(48271)).mod(java.math.BigInteger.valueOf(2147483647));
            int number = lot.intValueExact();
            int reader = 1 << number % now.people.size();
            List<Integer> all = agreeing(reader);
            if (all.isEmpty()) {
                goBy(theDay(now.yesterday, 0, 0, -1), 0);
            } else {
                goBy(all.get(number / 16 % all.size()), reader);
                printed++;
            }
        }
        return printed;
    }

    int count(int what) {
        int many = 0;
        switch (what) {
            case 0: return now.people.size();
            case 1: return now.days.size();
            case 2: return now.yesterday;
            case 3:
            case 4:
                for (int x = 0; x < now.people.size(); x++) {
                    if (is(x, what == 3 ? 1 : 3)) many++;
                }
                return many;
            case 5: return (int) now.people.stream().map(one -> one.does).distinct().count();
            case 6: return (int) Arrays.stream(rows).filter(row -> row != null).count();
            case 7: return (int) Arrays.stream(texts).filter(text -> text != null).count();
            case 8: return (int) Arrays.stream(kept).filter(place -> place != null).count();
            default: return BAD;
        }
    }

    int asked() {
        return asked;
    }

    long upper() {
        return upper;
    }

    long lower() {
        return lower;
    }

    int finding() {
        return finding;
    }

    int findings(int f) {
        return in(f, 1, 5) ? findings[f] : BAD;
    }

    long digest() {
        List<Integer> all = new ArrayList<>();
        for (int what = 0; what <= 8; what++) {
            all.add(count(what));
        }
        for (int x = 0; x < now.people.size(); x++) {
            for (int what = 0; what <= 5; what++) {
                all.add(trait(x, what));
            }
        }
        for (int[] day : now.days) {
            all.add(day[0]);
        }
        for (Place place : kept) {
            all.add(place == null ? -1 : place.days.size());
        }
        for (int[] row : rows) {
            all.add(row == null ? -1 : row.length);
            for (int i = 0; row != null && i < row.length; i++) {
                all.add(row[i]);
            }
        }
        for (byte[] text : texts) {
            all.add(text == null ? -1 : text.length);
            for (int i = 0; text != null && i < text.length; i++) {
                all.add((int) text[i]);
            }
        }
        long h = 17;
        for (int v : all) {
            h = 31 * h + v;
        }
        return h;
    }
}
