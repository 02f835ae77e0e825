import java.util.function.LongSupplier;

/** Counts and prints answers that are not as due; shared by the project's own tests. */
final class Check {
    private int right = 0;
    private int wrong = 0;
    private String part = "";

    void part(String name) {
        part = name;
    }

    void due(String what, long got, long want) {
        if (got == want) {
            right++;
        } else {
            wrong++;
            System.out.println(part + ": " + what + " answered " + got + ", due is " + want);
        }
    }

    void due(String what, TomorrowPage page, long got, long want, int wantAsked) {
        due(what, got, want);
        due("asked() behind " + what, page.asked(), wantAsked);
    }

    /** A call that is refused with BAD, FULL or STATE changes nothing at all. */
    void refused(String what, TomorrowPage page, LongSupplier call, int want) {
        refused(what, page, call, want, 0);
    }

    /** A call that is refused by a FINDING changes finding() and findings() of it alone. */
    void found(String what, TomorrowPage page, LongSupplier call, int finding) {
        refused(what, page, call, TomorrowPage.FINDING, finding);
    }

    private void refused(String what, TomorrowPage page, LongSupplier call, int want, int finding) {
        long[] before = state(page);
        due(what, call.getAsLong(), want);
        if (finding > 0) {
            before[4] = finding;
            before[4 + finding]++;
        }
        long[] behind = state(page);
        for (int i = 0; i < before.length; i++) {
            due("behind " + what + " state " + i, behind[i], before[i]);
        }
    }

    private static long[] state(TomorrowPage page) {
        return new long[] {page.digest(), page.asked(), page.upper(), page.lower(), page.finding(),
            page.findings(1), page.findings(2), page.findings(3), page.findings(4), page.findings(5)};
    }

    void end() {
        System.out.println(right + " answers as due, " + wrong + " not");
        if (wrong != 0 || right == 0) {
            System.exit(1);
        }
    }

    /** Writes signs into TEXT t. */
    static void write(TomorrowPage page, int t, String signs) {
        page.text(t, signs.length());
        for (int i = 0; i < signs.length(); i++) {
            page.put(t, i, signs.charAt(i));
        }
    }

    /** A new object with the TOWN that the signs tell, from TEXT 3. */
    static TomorrowPage town(String signs) {
        TomorrowPage page = new TomorrowPage();
        write(page, 3, signs);
        if (page.town(3) < 0) {
            throw new IllegalStateException("no town: " + signs);
        }
        return page;
    }
}
