import java.util.List;
import java.util.Map;
import java.util.Random;
import java.util.TreeMap;

/**
 * Runs by lots with the program and the Model side by side, each of just the 512 calls that an object is promised
 * for. Each call of the document is in turn the last one of a run.
 */
public final class ModelTest {
    private static final int RUNS = 960;
    /** A call and the kinds of its numbers, as number() takes them. */
    private static final String[] CALLS = {
        "row r n", "lay r i v", "at r i", "tear r", "copy r i r i i", "mean r", "text t m", "put t j v", "fault t", "town t",
        "person x w", "mark x k", "habit x h", "yesterday d",
        "day p s", "agrees p s", "print p s", "undo u", "keep e", "on e",
        "pages s", "nth z s", "sure s", "torn s f p", "look s f p", "odds s a",
        "mustNot", "most", "who p", "sets p", "holds x p", "halves x f x f", "spoil x p",
        "edit f p", "choose s f p", "lead f p r", "reach",
        "bet b", "numbers", "nerve", "luck l q",
        "asked", "upper", "lower", "count o", "finding", "findings g", "digest"};
    /** They show what the calls ahead of them did, so they come more often than the others. */
    private static final String[] TELLING = {"asked", "asked", "upper", "lower", "finding", "findings g", "count o", "digest",
        "digest", "digest", "digest"};
    /** They undo what was built up, so most of them are left out. */
    private static final List<String> SELDOM = List.of("tear r", "text t m", "town t", "undo u", "on e", "luck l q");
    private static final int[] ODD = {-1, Integer.MIN_VALUE, Integer.MAX_VALUE, 256, 41, 81, 7, 64, -128, 1000};
    /** A TOWN takes at most 80 puts and three calls more; ten calls and the last one close a run. */
    private static final int TOWN_CALLS = 83, CLOSING_CALLS = 11;

    private final Random lots;
    private final Pair pair = new Pair();
    private final Map<String, Integer> answered;
    private int readers = 0;

    private ModelTest(long seed, Map<String, Integer> answered) {
        lots = new Random(seed);
        this.answered = answered;
    }

    public static void main(String[] args) {
        long first = args.length > 0 ? Long.parseLong(args[0]) : 1;
        int runs = args.length > 1 ? Integer.parseInt(args[1]) : RUNS;
        int wrong = 0;
        Map<String, Integer> answered = new TreeMap<>();
        for (long seed = first; seed < first + runs && wrong < 5; seed++) {
            ModelTest test = new ModelTest(seed, answered);
            test.run(CALLS[(int) Math.floorMod(seed, CALLS.length)]);
            if (!test.pair.unlike().isEmpty() || test.pair.calls() != Pair.MOST_CALLS) {
                System.out.println("seed " + seed + ", " + test.pair.calls() + " calls, " + test.pair.unlike());
                wrong++;
            }
        }
        for (String call : CALLS) {
            if (wrong == 0 && runs >= RUNS && answered.getOrDefault(call, 0) < runs / 10) {
                System.out.println("hardly ever answered: " + call);
                wrong++;
            }
        }
        System.out.println(runs + " runs of " + Pair.MOST_CALLS + " calls, " + wrong + " not as due");
        if (wrong != 0) {
            System.exit(1);
        }
    }

    private void run(String last) {
        if (lots.nextInt(12) > 0) {
            makeTown();
        }
        while (left() > CLOSING_CALLS) {
            if (lots.nextInt(150) == 0 && left() > TOWN_CALLS + CLOSING_CALLS) {
                makeTown();
            } else {
                makeOne();
            }
        }
        for (String name : new String[] {"asked", "upper", "lower", "finding", "digest"}) {
            pair.call(name);
        }
        for (int f = 1; f <= 5; f++) {
            pair.call("findings", f);
        }
        make(last);
    }

    private int left() {
        return Pair.MOST_CALLS - pair.calls();
    }

    private void makeOne() {
        String call = CALLS[lots.nextInt(CALLS.length)];
        if (lots.nextInt(3) == 0) {
            make(TELLING[lots.nextInt(TELLING.length)]);
        } else if (!SELDOM.contains(call) || lots.nextInt(4) == 0) {
            make(call);
        }
    }

    private void make(String call) {
        String[] parts = call.split(" ");
        int[] numbers = new int[parts.length - 1];
        readers = someReaders();
        for (int i = 0; i < numbers.length; i++) {
            numbers[i] = lots.nextInt(40) == 0 ? ODD[lots.nextInt(ODD.length)] : number(parts[i + 1].charAt(0));
        }
        boolean alike = pair.call(parts[0], numbers);
        if (alike && pair.latest() >= 0 || call.equals("digest")) {
            answered.merge(call, 1, Integer::sum);
        }
    }

    private int to(int bound) {
        return lots.nextInt(Math.max(1, bound));
    }

    private int people() {
        return pair.model.now.people.size();
    }

    private int someReaders() {
        return lots.nextInt(3) == 0 && people() > 0 ? 1 << to(people()) : to(1 << people());
    }

    private int number(char kind) {
        switch (kind) {
            case 'r': return to(6);
            case 'n': return to(41);
            case 'i': return to(12);
            case 'v': return lots.nextInt(4) == 0 ? lots.nextInt() : lots.nextInt(200) - 100;
            case 't': return to(4);
            case 'm': return to(81);
            case 'j': return to(80);
            case 'w': return to(6);
            case 'k': return 1 + to(5);
            case 'h': return to(2);
            case 'd': return to(256);
            case 'e': return to(3);
            case 'z': return to(3);
            case 'a': return to(8);
            case 'b': return to(7);
            case 'o': return to(9);
            case 'g': return 1 + to(5);
            default: return numberOfTown(kind);
        }
    }

    private int numberOfTown(char kind) {
        switch (kind) {
            case 'x': {
                int x = to(people());
                readers = lots.nextInt(4) == 0 ? readers : 1 << x;
                return x;
            }
            case 's': return readers;
            case 'p': return somePage();
            case 'f': return lots.nextInt(3) == 0 ? to(256) : 1 << to(8) | 1 << to(8);
            case 'u': return to(pair.model.now.days.size() + 2);
            case 'l': return lots.nextInt(2) == 0 ? to(41) : 1 + to(5);
            case 'q': return lots.nextInt(30) == 0 ? to(2) : 1 + to(2147483646);
            default: throw new IllegalStateException("no such kind: " + kind);
        }
    }

    /** A PAGE, often one that AGREES with the readers. */
    private int somePage() {
        List<Integer> all = lots.nextInt(4) == 0 ? List.of() : pair.model.agreeing(readers);
        return all.isEmpty() ? to(256) : all.get(to(all.size()));
    }

    private String someSigns() {
        StringBuilder signs = new StringBuilder(" ".repeat(lots.nextInt(3))).append('d');
        int facts = 1 + lots.nextInt(8);
        for (int i = 0; i < 8; i++) {
            signs.append(lots.nextInt(2));
        }
        int people = lots.nextInt(40) == 0 ? 7 : lots.nextInt(7);
        for (int x = 0; x < people; x++) {
            signs.append(" ".repeat(lots.nextInt(3))).append("orsglf".charAt(lots.nextInt(6)));
            signs.append(lots.nextInt(facts)).append(lots.nextInt(facts)).append(lots.nextInt(2)).append(lots.nextInt(7));
        }
        signs.append(" ".repeat(lots.nextInt(3)));
        if (lots.nextInt(8) == 0) {
            signs.setCharAt(lots.nextInt(signs.length()), "drso01238 x".charAt(lots.nextInt(11)));
        }
        if (lots.nextInt(12) == 0) {
            signs.setLength(lots.nextInt(signs.length()));
        }
        return signs.toString();
    }

    private void makeTown() {
        int t = lots.nextInt(4);
        pair.write(t, someSigns());
        pair.call("fault", t);
        pair.call("town", t);
    }
}
