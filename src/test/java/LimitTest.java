/**
 * "A question that would have more than 20000 LOOKS is SPENT: -2", in each question: 19999, 20000 and 20001
 * LOOKS, reckoned by hand from the SPANS of FEASTS; and "at most 512 calls".
 */
public final class LimitTest {
    private static final int NONE = -1;
    private static final int SPENT = -2;
    private static final int LAST = Setup.LAST_FEAST;
    /** All their LOOKS are 19999, 20000 and 20001. */
    private static final int[][] ALL_LOOKS = {{7, 8, 4, 8, 10}, {2, 9, 10, 10, 10}, {3, 6, 10, 10, 10}};
    /** The first WAY of waysAtTheEnd() is found by LOOK 19999, 20000, 20001. */
    private static final int[][] TILL_ONE = {{2, 7, 5, 10, 7, 7}, {3, 6, 9, 4, 5, 8}, {4, 4, 9, 4, 5, 8}};

    public static void main(String[] args) {
        sums();
        firstAndLast();
        width();
        widthWithAFind();
        settles();
        can();
        agreesWithoutAWay();
        tillOneIsFound();
        quarrel();
        slips();
        slippedStays();
        spentIsOfOneQuestion();
        looksOfASpentQuestion();
        fiveHundredAndTwelveCalls();
        Check.end();
    }

    private static void sums() {
        for (int k = 0; k < 3; k++) {
            Check.due("the sum of " + k, Setup.looksOf(ALL_LOOKS[k]), 19999 + k);
        }
    }

    private static void looks(DayBench x, int k) {
        if (k < 2) {
            Check.due("LOOKS", x.count(3), 19999 + k);
        }
    }

    private static void firstAndLast() {
        for (int k = 0; k < 3; k++) {
            DayBench x = Setup.feasts(ALL_LOOKS[k]);
            for (int e = 0; e < 5; e++) {
                Check.due("first", x.first(e), k == 2 ? SPENT : LAST - 365 * (ALL_LOOKS[k][e] - 1));
                looks(x, k);
                Check.due("last", x.last(e), k == 2 ? SPENT : LAST);
                looks(x, k);
            }
            Check.due("first of no EVENT", x.first(5), NONE);
            Check.due("last of no EVENT", x.last(-1), NONE);
            tie(x, 4, 1, 0);
            Check.due("first without a WAY", x.first(0), k == 2 ? SPENT : NONE);
            looks(x, k);
            Check.due("last without a WAY", x.last(0), k == 2 ? SPENT : NONE);
            looks(x, k);
        }
    }

    private static int widthOf(int[] spans) {
        int sum = 0;
        for (int n : spans) {
            sum += 365 * (n - 1);
        }
        return sum;
    }

    private static void width() {
        for (int k = 0; k < 3; k++) {
            DayBench x = Setup.feasts(ALL_LOOKS[k]);
            Check.due("width", x.width(NONE, NONE), k == 2 ? SPENT : widthOf(ALL_LOOKS[k]));
            looks(x, k);
            tie(x, 4, 1, 0);
            Check.due("width without a WAY", x.width(NONE, NONE), k == 2 ? SPENT : NONE);
            looks(x, k);
        }
    }

    /** With the FIND, one SPAN of its EVENT stays, and all LOOKS are 19999, 20000, 20001. */
    private static final int[][] WITH_A_FIND = {{7, 1, 5, 10, 7, 7}, {1, 7, 8, 4, 8, 10}, {1, 2, 9, 10, 10, 10}};
    private static final int[] FIND_OF = {1, 0, 0};

    private static DayBench wideOpen(int k) {
        int[] spans = WITH_A_FIND[k].clone();
        spans[FIND_OF[k]] = 10;
        return Setup.feasts(spans);
    }

    private static void widthWithAFind() {
        for (int k = 0; k < 3; k++) {
            Check.due("the sum of " + k, Setup.looksOf(WITH_A_FIND[k]), 19999 + k);
            DayBench x = wideOpen(k);
            Check.due("width without a FIND", x.width(NONE, NONE), SPENT);
            Check.due("width with a FIND", x.width(FIND_OF[k], LAST), k == 2 ? SPENT : widthOf(WITH_A_FIND[k]));
            looks(x, k);
            Check.due("width with a FIND on no SPAN", x.width(0, LAST + 1), NONE);
            Check.due("LOOKS", x.count(3), 0);
        }
    }

    private static void settles() {
        int[] best = {4, 2};
        for (int k = 0; k < 3; k++) {
            DayBench x = Setup.feasts(ALL_LOOKS[k]);
            Check.due("settles", x.settles(), k == 2 ? SPENT : best[k]);
            if (k < 2) {
                int[] found = ALL_LOOKS[k].clone();
                found[4] = 1;
                Check.due("LOOKS of the latest WIDTH", x.count(3), Setup.looksOf(found));
            }
            tie(x, 4, 1, 0);
            Check.due("settles without a WAY", x.settles(), k == 2 ? SPENT : NONE);
            looks(x, k);
        }
    }

    private static void tie(DayBench x, int event, int days, int of) {
        x.say(event, 6, days, days, of, 1);
    }

    private static void can() {
        for (int k = 0; k < 3; k++) {
            DayBench x = wideOpen(k);
            Check.due("can", x.can(FIND_OF[k], LAST), 1);
            Check.due("LOOKS till one is found", x.count(3), 6);
            // The last EVENT never is one DAY behind another, but that is seen at its own LOOKS alone.
            tie(x, 5, 1, 0);
            Check.due("can't", x.can(FIND_OF[k], LAST), k == 2 ? SPENT : 0);
            looks(x, k);
            Check.due("no such DAY", x.can(FIND_OF[k], 986000), NONE);
        }
    }

    private static void agreesWithoutAWay() {
        for (int k = 0; k < 3; k++) {
            DayBench x = Setup.feasts(ALL_LOOKS[k]);
            Check.due("agrees", x.agrees(), 1);
            Check.due("LOOKS till one is found", x.count(3), 5);
            tie(x, 4, 1, 0);
            Check.due("agrees not", x.agrees(), k == 2 ? SPENT : 0);
            looks(x, k);
        }
    }

    /** Only the first SPAN of EVENT 5 meets a SPAN of EVENT 0, its last. */
    private static DayBench waysAtTheEnd(int k) {
        DayBench x = Setup.feasts(TILL_ONE[k]);
        tie(x, 5, 365 * (1 - TILL_ONE[k][5]), 0);
        return x;
    }

    private static void tillOneIsFound() {
        for (int k = 0; k < 3; k++) {
            int[] rest = java.util.Arrays.copyOfRange(TILL_ONE[k], 1, 6);
            Check.due("the sum of " + k, (TILL_ONE[k][0] - 1) * (1 + Setup.looksOf(rest)) + 6, 19999 + k);
            DayBench x = waysAtTheEnd(k);
            Check.due("agrees", x.agrees(), k == 2 ? SPENT : 1);
            looks(x, k);
            Check.due("quarrel", x.quarrel(), k == 2 ? SPENT : 0);
            looks(x, k);
            Check.due("slips", x.slips(), k == 2 ? SPENT : 0);
            looks(x, k);
            Check.due("slipped(-1)", x.slipped(-1), k == 2 ? 0 : 1);
            Check.due("slipped(0)", x.slipped(0), k == 2 ? NONE : 0);
        }
    }

    /**
     * "In a question all LOOKS count": the sayings are a pair that quarrels about EVENT 5, five FEASTS, and some
     * that all DAYS meet. All at once has the FEASTS' LOOKS, each alone has 6, the pair has 5.
     */
    private static void quarrel() {
        int[][] spans = {{8, 9, 6, 5, 8}, {9, 8, 6, 5, 8}, {10, 4, 7, 7, 9}};
        int[] more = {0, 0, 4};
        for (int k = 0; k < 3; k++) {
            Check.due("the sum of " + k, Setup.looksOf(spans[k]) + 6 * (7 + more[k]) + 5, 19999 + k);
            DayBench x = Setup.withEvents(6);
            x.say(5, 0, 5, 5, 0, 1);
            x.say(5, 0, 6, 6, 0, 1);
            for (int e = 0; e < 5; e++) {
                Setup.feast(x, e, spans[k][e]);
            }
            for (int m = 0; m < more[k]; m++) {
                x.say(0, 0, 0, 985999, 0, 1);
            }
            Check.due("quarrel", x.quarrel(), k == 2 ? SPENT : 3);
            looks(x, k);
            Check.due("agrees", x.agrees(), 0);
            Check.due("LOOKS", x.count(3), Setup.looksOf(spans[k]));
        }
    }

    /** SAYING 0 ties EVENT 5 to where it can't be; the FEASTS are heavier. So all are asked, then all but 0. */
    private static DayBench oneSlip(int... spans) {
        DayBench x = Setup.withEvents(6);
        tie(x, 5, 1, 0);
        for (int e = 0; e < 6; e++) {
            x.say(e, 5, 2, 2700 - spans[e], 101, 100);
        }
        return x;
    }

    private static final int[][] ONE_SLIP = {{1, 7, 5, 10, 7, 7}, {2, 6, 9, 4, 5, 8}, {3, 4, 9, 4, 5, 8}};

    private static void slips() {
        for (int k = 0; k < 3; k++) {
            Check.due("the sum of " + k, Setup.looksOf(ONE_SLIP[k]) + 6, 19999 + k);
            DayBench x = oneSlip(ONE_SLIP[k]);
            Check.due("slips", x.slips(), k == 2 ? SPENT : 1);
            looks(x, k);
            Check.due("slipped(-1)", x.slipped(-1), k == 2 ? 0 : 1);
            Check.due("slipped(0)", x.slipped(0), k == 2 ? NONE : 1);
            Check.due("slipped(1)", x.slipped(1), NONE);
        }
    }

    /** "the latest slips() that was not -2 told". */
    private static void slippedStays() {
        DayBench x = oneSlip(ONE_SLIP[2]);
        Check.due("slips, spent", x.slips(), SPENT);
        Check.due("slipped(-1) ahead of any", x.slipped(-1), 0);
        x.take(1, false);
        Check.due("slips without the FEAST of EVENT 0", x.slips(), 0);
        Check.due("slipped(-1)", x.slipped(-1), 1);
        Check.due("slipped(0)", x.slipped(0), 0);
        x.take(1, true);
        Check.due("slips, spent again", x.slips(), SPENT);
        Check.due("slipped(-1) stays", x.slipped(-1), 1);
        Check.due("slipped(0) stays", x.slipped(0), 0);
        Check.due("slipped(1)", x.slipped(1), NONE);
        x.take(2, false);
        Check.due("slips without the FEAST of EVENT 1", x.slips(), 1);
        Check.due("slipped(0) is a new one", x.slipped(0), 1);
    }

    /** A SPENT question leaves nothing to the next one. */
    private static void spentIsOfOneQuestion() {
        DayBench x = Setup.feasts(10, 10, 10, 10, 10, 10);
        Check.due("first", x.first(0), SPENT);
        Check.due("agrees", x.agrees(), 1);
        Check.due("LOOKS", x.count(3), 6);
        Check.due("width", x.width(NONE, NONE), SPENT);
        Check.due("can", x.can(5, LAST), 1);
        Check.due("settles", x.settles(), SPENT);
        Check.due("quarrel", x.quarrel(), 0);
        Check.due("last", x.last(3), SPENT);
        Check.due("slips", x.slips(), 0);
        for (int k = 0; k < 4; k++) {
            x.take(k, false);
        }
        Check.due("first without four FEASTS", x.first(5), LAST - 9 * 365);
        Check.due("LOOKS", x.count(3), 4 + 10 + 100);
    }

    /** The LOOK that would be one too many is not made. */
    private static void looksOfASpentQuestion() {
        DayBench x = Setup.feasts(ALL_LOOKS[2]);
        x.first(0);
        Check.due("LOOKS", x.count(3), 20000);
    }

    /** "An object is used for at most 512 calls": the last of them answers as the first did. */
    private static void fiveHundredAndTwelveCalls() {
        DayBench x = new DayBench();
        int[] spans = ALL_LOOKS[1];
        for (int e = 0; e < 5; e++) {
            x.event();
            Setup.feast(x, e, spans[e]);
        }
        for (int call = 11; call <= 510; call += 2) {
            Check.due("width at call " + call, x.width(NONE, NONE), widthOf(spans));
            Check.due("slips at call " + (call + 1), x.slips(), 0);
        }
        Check.due("last at call 511", x.last(4), LAST);
        Check.due("LOOKS at call 512", x.count(3), 20000);
    }
}
