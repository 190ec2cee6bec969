/**
 * Promises 12 to 15 and 19 (first, last, can, agrees, width) by section 3 of the terms: each boundary that it
 * names, on it and one step to each side. A test's comment tells the words.
 */
public final class QuestionBoundaryTest {
    private static final int NONE = -1;
    private static final int LAST_DAY = 985999;
    private static final int MIN = Integer.MIN_VALUE;
    private static final int MAX = Integer.MAX_VALUE;
    private static final int[] OUTSIDE_THREE = {MIN, -2, -1, 3, 4, 6, MAX};
    private static final int[] OUTSIDE_DAYS = {MIN, -2, -1, 986000, 986001, MAX};

    public static void main(String[] args) {
        nothingAtAll();
        noSayings();
        noneTaken();
        eventsOfAQuestion();
        daysOfAQuestion();
        widthWithoutAFind();
        endsOfSpans();
        spansThatTouch();
        daysBehind();
        farthestBehind();
        behindTheEndsOfDays();
        tiedThroughAThird();
        circlesOfBehinds();
        looksOfEventsWithoutSpans();
        Check.end();
    }

    /** EVENT "event" lies just so many DAYS behind another one. */
    private static void tie(DayBench x, int event, int days, int of) {
        x.say(event, 6, days, days, of, 1);
    }

    private static void span(DayBench x, int event, int a, int b) {
        x.say(event, 0, a, b, 0, 1);
    }

    /** No EVENTS: there is the one WAY of no DAYS, and nothing to look at. */
    private static void nothingAtAll() {
        DayBench x = new DayBench();
        Check.due("agrees", x.agrees(), 1);
        Check.due("quarrel", x.quarrel(), 0);
        Check.due("slipped(-1) ahead of any", x.slipped(-1), 0);
        Check.due("slipped(0) ahead of any", x.slipped(0), NONE);
        Check.due("slips", x.slips(), 0);
        Check.due("slipped(-1)", x.slipped(-1), 1);
        Check.due("slipped(0)", x.slipped(0), 0);
        Check.due("slipped(1)", x.slipped(1), NONE);
        Check.due("width", x.width(NONE, NONE), 0);
        Check.due("width(0, 0)", x.width(0, 0), NONE);
        Check.due("settles", x.settles(), NONE);
        Check.due("first(0)", x.first(0), NONE);
        Check.due("last(0)", x.last(0), NONE);
        Check.due("can(0, 0)", x.can(0, 0), NONE);
        Check.due("LOOKS", x.count(3), 0);
    }

    /** "all DAYS without any". */
    private static void noSayings() {
        for (int n = 1; n <= 6; n++) {
            DayBench x = Setup.withEvents(n);
            for (int e = 0; e < n; e++) {
                Check.due("first", x.first(e), 0);
                Check.due("last", x.last(e), LAST_DAY);
            }
            Check.due("LOOKS", x.count(3), n);
            Check.due("width", x.width(NONE, NONE), n * LAST_DAY);
            Check.due("width with a FIND", x.width(n - 1, LAST_DAY), (n - 1) * LAST_DAY);
            Check.due("settles", x.settles(), 0);
            Check.due("agrees", x.agrees(), 1);
            Check.due("quarrel", x.quarrel(), 0);
            Check.due("slips", x.slips(), 0);
            Check.due("slipped(-1)", x.slipped(-1), 1);
            Check.due("slipped(0)", x.slipped(0), 0);
        }
    }

    /** Sayings that are not TAKEN are as none. */
    private static void noneTaken() {
        DayBench x = Setup.withEvents(2);
        x.say(0, 0, 5, 5, 0, 1);
        x.say(0, 0, 6, 6, 0, 1);
        x.say(1, 6, 1, 1, 0, 1);
        Check.due("agrees with all", x.agrees(), 0);
        Check.due("first with all", x.first(0), NONE);
        x.take(0, false);
        Check.due("agrees without SAYING 0", x.agrees(), 1);
        Check.due("first without SAYING 0", x.first(0), 6);
        Check.due("first of the other", x.first(1), 7);
        x.take(1, false);
        Check.due("last by the BEHIND alone", x.last(0), LAST_DAY - 1);
        x.take(2, false);
        Check.due("first without any", x.first(1), 0);
        Check.due("last without any", x.last(0), LAST_DAY);
        Check.due("slips without any", x.slips(), 0);
        Check.due("slipped(-1)", x.slipped(-1), 1);
        Check.due("quarrel without any", x.quarrel(), 0);
        Check.due("width without any", x.width(NONE, NONE), 2 * LAST_DAY);
    }

    /** "no such EVENT": of three the numbers are 0 .. 2. */
    private static void eventsOfAQuestion() {
        DayBench x = Setup.withEvents(3);
        for (int e = 0; e < 3; e++) {
            x.say(e, 0, 10 * e, 10 * e + e, 0, 1);
        }
        for (int e : OUTSIDE_THREE) {
            Check.due("first(" + e + ")", x.first(e), NONE);
            Check.due("last(" + e + ")", x.last(e), NONE);
            Check.due("can(" + e + ", 0)", x.can(e, 0), NONE);
            Check.due("width(" + e + ", 0)", x.width(e, 0), NONE);
        }
        Check.due("no LOOKS for those", x.count(3), 0);
        for (int e = 0; e < 3; e++) {
            Check.due("first(" + e + ")", x.first(e), 10 * e);
            Check.due("last(" + e + ")", x.last(e), 11 * e);
            Check.due("can(" + e + ")", x.can(e, 11 * e), 1);
            Check.due("width(" + e + ")", x.width(e, 10 * e), 3 - e);
        }
    }

    /** "no such .. DAY". */
    private static void daysOfAQuestion() {
        DayBench x = Setup.withEvents(2);
        for (int day : OUTSIDE_DAYS) {
            Check.due("can(0, " + day + ")", x.can(0, day), NONE);
            Check.due("can(1, " + day + ")", x.can(1, day), NONE);
            Check.due("width(0, " + day + ")", x.width(0, day), NONE);
            Check.due("width(1, " + day + ")", x.width(1, day), NONE);
        }
        Check.due("no LOOKS for those", x.count(3), 0);
        for (int day : new int[] {0, 1, LAST_DAY - 1, LAST_DAY}) {
            Check.due("can(1, " + day + ")", x.can(1, day), 1);
            Check.due("width(1, " + day + ")", x.width(1, day), LAST_DAY);
        }
    }

    /** "NONE, NONE: without": both of them, or it is no such EVENT, no such DAY. */
    private static void widthWithoutAFind() {
        DayBench x = Setup.withEvents(2);
        x.say(0, 0, 0, 9, 0, 1);
        x.say(1, 0, 0, 19, 0, 1);
        Check.due("width(NONE, NONE)", x.width(NONE, NONE), 28);
        int[][] none = {{-1, 0}, {-1, 5}, {0, -1}, {1, -1}, {-2, -1}, {-1, -2}, {-2, -2}, {-1, MIN}, {MIN, -1}, {-1, 986000}, {2, -1}};
        for (int[] find : none) {
            Check.due("width(" + find[0] + ", " + find[1] + ")", x.width(find[0], find[1]), NONE);
        }
        Check.due("width(0, 0)", x.width(0, 0), 19);
        Check.due("width(0, 9)", x.width(0, 9), 19);
        Check.due("width(0, 10)", x.width(0, 10), NONE);
        Check.due("width(1, 19)", x.width(1, 19), 9);
        Check.due("width(1, 20)", x.width(1, 20), NONE);
        Check.due("no FIND stays", x.width(NONE, NONE), 28);
    }

    /** "DAYS a .. b": both ends are in it. */
    private static void endsOfSpans() {
        int[][] spans = {{100, 200}, {100, 100}, {0, 0}, {0, 1}, {LAST_DAY, LAST_DAY}, {LAST_DAY - 1, LAST_DAY}};
        for (int[] s : spans) {
            DayBench x = Setup.withEvents(1);
            x.say(0, 0, s[0], s[1], 0, 1);
            Check.due("first", x.first(0), s[0]);
            Check.due("last", x.last(0), s[1]);
            Check.due("can ahead", x.can(0, s[0] - 1), s[0] == 0 ? NONE : 0);
            Check.due("can first", x.can(0, s[0]), 1);
            Check.due("can last", x.can(0, s[1]), 1);
            Check.due("can behind", x.can(0, s[1] + 1), s[1] == LAST_DAY ? NONE : 0);
        }
    }

    /** "rows of DAYS that all of its sayings TAKEN have". */
    private static void spansThatTouch() {
        int[][] cases = {{9, 20, 9, 10}, {10, 20, 10, 10}, {11, 20, NONE, NONE}, {0, 10, 0, 10}, {0, 0, 0, 0}, {3, 7, 3, 7}};
        for (int[] c : cases) {
            for (int turned = 0; turned < 2; turned++) {
                DayBench x = Setup.withEvents(1);
                x.say(0, 0, turned == 0 ? 0 : c[0], turned == 0 ? 10 : c[1], 0, 1);
                x.say(0, 0, turned == 0 ? c[0] : 0, turned == 0 ? c[1] : 10, 0, 1);
                String story = "0 .. 10 and " + c[0] + " .. " + c[1] + ": ";
                Check.due(story + "first", x.first(0), c[2]);
                Check.due(story + "last", x.last(0), c[3]);
                Check.due(story + "agrees", x.agrees(), c[2] == NONE ? 0 : 1);
                Check.due(story + "quarrel", x.quarrel(), c[2] == NONE ? 3 : 0);
                Check.due(story + "slips", x.slips(), c[2] == NONE ? 1 : 0);
                Check.due(story + "width", x.width(NONE, NONE), c[2] == NONE ? NONE : c[3] - c[2]);
            }
        }
        // A FEAST's days at the ends of a SPAN: 365 and 730 of 0, 365, 730, 1095 ..
        int[][] rows = {{365, 730, 2}, {366, 730, 1}, {365, 729, 1}, {366, 729, 0}, {364, 731, 2}, {0, 3285, 10}, {1, 3284, 8}};
        for (int[] row : rows) {
            DayBench x = Setup.withEvents(1);
            x.say(0, 5, 2, 1, 101, 1);
            x.say(0, 0, row[0], row[1], 0, 1);
            Check.due("agrees", x.agrees(), row[2] == 0 ? 0 : 1);
            x.first(0);
            Check.due("FEAST's days in " + row[0] + " .. " + row[1], x.count(3), row[2]);
        }
    }

    /** "a .. b DAYS .. behind EVENT c": both ends are in it, ahead (below 0) as behind. */
    private static void daysBehind() {
        int[][] behinds = {{10, 20}, {10, 10}, {0, 0}, {-1, 1}, {-20, -10}, {-10, 10}};
        for (int[] b : behinds) {
            DayBench x = Setup.withEvents(2);
            x.say(0, 0, 100, 100, 0, 1);
            x.say(1, 6, b[0], b[1], 0, 1);
            Check.due("first", x.first(1), 100 + b[0]);
            Check.due("last", x.last(1), 100 + b[1]);
            Check.due("can, too near", x.can(1, 100 + b[0] - 1), 0);
            Check.due("can, at the nearest", x.can(1, 100 + b[0]), 1);
            Check.due("can, at the farthest", x.can(1, 100 + b[1]), 1);
            Check.due("can, too far", x.can(1, 100 + b[1] + 1), 0);
            x = Setup.withEvents(2);
            x.say(1, 0, 100, 100, 0, 1);
            x.say(1, 6, b[0], b[1], 0, 1);
            Check.due("first of the one ahead", x.first(0), 100 - b[1]);
            Check.due("last of the one ahead", x.last(0), 100 - b[0]);
        }
    }

    /** "-40000 .. 40000". */
    private static void farthestBehind() {
        for (int days : new int[] {39999, 40000}) {
            DayBench x = Setup.withEvents(2);
            x.say(0, 0, 0, 0, 0, 1);
            tie(x, 1, days, 0);
            Check.due("first", x.first(1), days);
            Check.due("last", x.last(1), days);
            x = Setup.withEvents(2);
            x.say(0, 0, LAST_DAY, LAST_DAY, 0, 1);
            tie(x, 1, -days, 0);
            Check.due("first", x.first(1), LAST_DAY - days);
            Check.due("last", x.last(1), LAST_DAY - days);
        }
        DayBench x = Setup.withEvents(2);
        x.say(0, 0, 500000, 500000, 0, 1);
        x.say(1, 6, -40000, 40000, 0, 1);
        Check.due("first", x.first(1), 460000);
        Check.due("last", x.last(1), 540000);
    }

    /** "(other EVENTS in DAYS)": what would put another EVENT out of DAYS is left at its own LOOK. */
    private static void behindTheEndsOfDays() {
        DayBench x = Setup.withEvents(2);
        tie(x, 1, 40000, 0);
        Check.due("first(0)", x.first(0), 0);
        Check.due("last(0)", x.last(0), LAST_DAY - 40000);
        Check.due("first(1)", x.first(1), 40000);
        Check.due("last(1)", x.last(1), LAST_DAY);
        Check.due("can(1, 39999)", x.can(1, 39999), 0);
        Check.due("LOOKS", x.count(3), 2);
        Check.due("can(1, 40000)", x.can(1, 40000), 1);
        Check.due("can(0, 945999)", x.can(0, 945999), 1);
        Check.due("LOOKS", x.count(3), 2);
        Check.due("can(0, 946000)", x.can(0, 946000), 0);
        Check.due("LOOKS: the second EVENT takes none", x.count(3), 1);
        x = Setup.withEvents(2);
        tie(x, 1, -40000, 0);
        Check.due("can(0, 40000)", x.can(0, 40000), 1);
        Check.due("can(0, 39999)", x.can(0, 39999), 0);
        Check.due("LOOKS: the second EVENT takes none", x.count(3), 1);
        // Through EVENTS without a saying of their own between: 5 by 40000 is 200000.
        x = Setup.withEvents(6);
        for (int e = 1; e < 6; e++) {
            tie(x, e, 40000, e - 1);
        }
        Check.due("can(0, 785999)", x.can(0, LAST_DAY - 200000), 1);
        Check.due("LOOKS", x.count(3), 6);
        Check.due("can(0, 786000)", x.can(0, LAST_DAY - 199999), 0);
        Check.due("LOOKS", x.count(3), 1);
        Check.due("can(5, 200000)", x.can(5, 200000), 1);
        Check.due("can(5, 199999)", x.can(5, 199999), 0);
        Check.due("LOOKS: only the last EVENT's is left", x.count(3), 6);
        x = Setup.withEvents(6);
        for (int e = 1; e < 6; e++) {
            tie(x, e, -40000, e - 1);
        }
        Check.due("can(0, 200000)", x.can(0, 200000), 1);
        Check.due("LOOKS", x.count(3), 6);
        Check.due("can(0, 199999)", x.can(0, 199999), 0);
        Check.due("LOOKS", x.count(3), 1);
        Check.due("can(5, 785999)", x.can(5, LAST_DAY - 200000), 1);
        Check.due("can(5, 786000)", x.can(5, LAST_DAY - 199999), 0);
    }

    /** "together with those ahead and all BEHIND TAKEN": two EVENTS that a third one, free itself, keeps together. */
    private static void tiedThroughAThird() {
        for (int third = 0; third < 3; third++) {
            int one = third == 0 ? 1 : 0;
            int other = third == 2 ? 1 : 2;
            for (int apart = -11; apart <= 11; apart++) {
                DayBench x = Setup.withEvents(3);
                x.say(one, 6, 20, 25, third, 1);
                x.say(other, 6, 20, 25, third, 1);
                Check.due("width on a DAY", x.width(one, 500), 5 + 10);
                span(x, one, 500, 500);
                Check.due("first", x.first(other), 495);
                Check.due("last", x.last(other), 505);
                span(x, other, 500 + apart, 500 + apart);
                Check.due("agrees, " + apart + " apart", x.agrees(), Math.abs(apart) <= 5 ? 1 : 0);
                Check.due("LOOKS", x.count(3), third == 2 && Math.abs(apart) > 5 ? 2 : 3);
                Check.due("width", x.width(NONE, NONE), Math.abs(apart) <= 5 ? 5 - Math.abs(apart) : NONE);
            }
        }
    }

    /** BEHINDs in a circle: just met, missed by one. */
    private static void circlesOfBehinds() {
        for (int back = -3; back <= -1; back++) {
            DayBench x = Setup.withEvents(3);
            tie(x, 1, 1, 0);
            tie(x, 2, 1, 1);
            tie(x, 0, back, 2);
            Check.due("agrees, " + back + " back", x.agrees(), back == -2 ? 1 : 0);
            Check.due("LOOKS", x.count(3), back == -2 ? 3 : 1);
            Check.due("quarrel", x.quarrel(), back == -2 ? 0 : 7);
            Check.due("last(0)", x.last(0), back == -2 ? LAST_DAY - 2 : NONE);
        }
        // The greatest circle: five steps of 40000 and one back that is as far as may be said.
        DayBench x = Setup.withEvents(6);
        for (int e = 1; e < 6; e++) {
            tie(x, e, 40000, e - 1);
        }
        tie(x, 0, -40000, 5);
        Check.due("agrees", x.agrees(), 0);
        Check.due("quarrel", x.quarrel(), 63);
        x.take(5, false);
        Check.due("agrees then", x.agrees(), 1);
    }

    /** An EVENT without SPANS takes none: those ahead of it have LOOKS, those behind it do not. */
    private static void looksOfEventsWithoutSpans() {
        for (int without = 0; without < 4; without++) {
            DayBench x = Setup.feasts(2, 3, 4, 5);
            x.say(without, 0, 5, 5, 0, 1);
            Check.due("agrees", x.agrees(), 0);
            int looks = Setup.looksOf(java.util.Arrays.copyOf(new int[] {2, 3, 4, 5}, without));
            Check.due("LOOKS of agrees", x.count(3), looks);
            Check.due("first", x.first(0), NONE);
            Check.due("LOOKS of first", x.count(3), looks);
        }
    }
}
