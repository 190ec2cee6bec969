/**
 * Promises 1 and 5 to 11 (a new object, king, event, say, copy, take, look, span) by sections 1 and 2 of the
 * terms: each boundary that they name, on it and one step to each side. A test's comment tells the words.
 */
public final class SayingBoundaryTest {
    private static final int NONE = -1;
    private static final int MIN = Integer.MIN_VALUE;
    private static final int MAX = Integer.MAX_VALUE;

    public static void main(String[] args) {
        newObject();
        sixKings();
        daysOfAKing();
        calendarOfAKing();
        sixEvents();
        twelveSayings();
        weights();
        kindsOfSaying();
        eventOfASaying();
        spans();
        dates();
        months();
        years();
        yearsOfAReign();
        reignsThatEndBeyond();
        reignsFromALeapDay();
        kingOfAReign();
        tenYearsOfAFeast();
        feastsWithOneYear();
        feastsOfALeapDay();
        feastsAtTheFirstDay();
        behinds();
        othersAreNotLookedAt();
        copiesOfLesserNumbers();
        onlyOneCopy();
        rootsOfAChain();
        taking();
        looksAtASaying();
        spansOfASaying();
        Check.end();
    }

    private static void says(int what, int a, int b, int c, int... spans) {
        SayCheck.says(Setup.withEvents(2), what, a, b, c, spans);
    }

    private static void refuses(int what, int a, int b, int c) {
        SayCheck.refuses(Setup.withEvents(2), 0, what, a, b, c, 7);
    }

    /** A saying of EVENT 0 by a new bench with one KING. */
    private static DayBench withKing(int calendar, int a, int b) {
        DayBench x = Setup.withEvents(1);
        Check.due("king(" + calendar + ", " + a + ", " + b + ")", x.king(calendar, a, b), 0);
        return x;
    }

    private static void reign(int calendar, int a, int b, int n, int from, int to) {
        SayCheck.says(withKing(calendar, a, b), 4, 0, n, 0, from, to);
    }

    private static void noReign(int calendar, int a, int b, int n) {
        SayCheck.refuses(withKing(calendar, a, b), 0, 4, 0, n, 0, 7);
    }

    /** "No KINGS, no EVENTS." */
    private static void newObject() {
        DayBench x = new DayBench();
        Check.due("new: KINGS", x.count(0), 0);
        Check.due("new: EVENTS", x.count(1), 0);
        Check.due("new: SAYINGS", x.count(2), 0);
        Check.due("new: LOOKS", x.count(3), 0);
        Check.due("new: a saying of EVENT 0", x.say(0, 0, 0, 1, 0, 1), NONE);
        Check.due("new: the first EVENT", x.event(), 0);
        Check.due("new: a saying of KING 0", x.say(0, 4, 0, 1, 0, 1), NONE);
        Check.due("new: the first KING", x.king(0, 0, 0), 0);
        Check.due("new: the first SAYING", x.say(0, 4, 0, 1, 0, 1), 0);
    }

    /** "KINGS, at most 6", "or there are 6". */
    private static void sixKings() {
        DayBench x = Setup.withEvents(1);
        for (int k = 0; k < 6; k++) {
            Check.due("KING " + k, x.king(2, 10 * k, 10 * k + k), k);
            Check.due("KINGS", x.count(0), k + 1);
        }
        Check.due("KING 6", x.king(2, 0, 0), NONE);
        Check.due("KING 6 again", x.king(1, 0, 985999), NONE);
        Check.due("KINGS", x.count(0), 6);
        for (int k = 0; k < 6; k++) {
            SayCheck.says(x, 4, k, 1, 0, 10 * k, 11 * k + 364);
        }
        SayCheck.refuses(x, 0, 4, 6, 1, 0, 1);
    }

    /** "it can't be (a above b, no DAYS)"; a DAY without a date may be one of a KING's all the same. */
    private static void daysOfAKing() {
        int[][] kings = {{0, 0}, {0, 1}, {1, 1}, {5, 5}, {5, 6}, {0, 985998}, {0, 985999}, {985998, 985999}, {985999, 985999}};
        for (int[] k : kings) {
            Check.due("king(0, " + k[0] + ", " + k[1] + ")", new DayBench().king(0, k[0], k[1]), 0);
        }
        int[][] none = {{1, 0}, {6, 5}, {985999, 985998}, {985999, 0}, {-1, -1}, {-1, 0}, {-1, 5}, {0, -1}, {0, 986000}, {5, 986000},
            {985999, 986000}, {986000, 986000}, {986000, 985999}, {MIN, MAX}, {MIN, MIN}, {MAX, MAX}, {MAX, MIN}, {0, MIN}, {0, MAX}};
        DayBench x = new DayBench();
        for (int[] k : none) {
            Check.due("king(0, " + k[0] + ", " + k[1] + ")", x.king(0, k[0], k[1]), NONE);
        }
        Check.due("KINGS", x.count(0), 0);
        Check.due("the first KING", x.king(0, 7, 7), 0);
    }

    /** "of a CALENDAR". */
    private static void calendarOfAKing() {
        DayBench x = new DayBench();
        for (int calendar : new int[] {MIN, -1, 3, MAX}) {
            Check.due("king(" + calendar + ", 0, 0)", x.king(calendar, 0, 0), NONE);
        }
        for (int calendar = 0; calendar < 3; calendar++) {
            Check.due("king(" + calendar + ", 0, 0)", x.king(calendar, 0, 0), calendar);
        }
        int leap = 1154;
        reign(0, leap, leap, 1, leap, leap + 365);
        reign(1, leap, leap, 1, leap, leap + 364);
        reign(2, leap, leap, 1, leap, leap + 364);
    }

    /** "EVENTS, at most 6", "there are 6". */
    private static void sixEvents() {
        DayBench x = new DayBench();
        for (int k = 0; k < 6; k++) {
            Check.due("last of EVENT " + k + " ahead of it", x.last(k), NONE);
            Check.due("event()", x.event(), k);
            Check.due("EVENTS", x.count(1), k + 1);
            Check.due("last of EVENT " + k, x.last(k), 985999);
        }
        Check.due("event() of six", x.event(), NONE);
        Check.due("event() of six again", x.event(), NONE);
        Check.due("EVENTS", x.count(1), 6);
        Check.due("last of EVENT 6", x.last(6), NONE);
    }

    /** "SAYINGS, at most 12", "or there are 12"; one that is not TAKEN is one of them too. */
    private static void twelveSayings() {
        DayBench x = Setup.withEvents(2);
        x.king(2, 0, 0);
        for (int k = 0; k < 12; k++) {
            Check.due("a refused one ahead of SAYING " + k, x.say(0, 0, 1, 0, 0, 1), NONE);
            Check.due("SAYING " + k, x.say(0, 0, k, 100 + k, 0, 1), k);
            Check.due("SAYINGS", x.count(2), k + 1);
        }
        int[][] good = {{0, 5, 5, 0}, {1, 2, 5, 505}, {2, 2, 5, 5}, {3, 2, 5, 0}, {4, 0, 1, 0}, {5, 2, 5, 505}, {6, 5, 5, 1}};
        for (int[] s : good) {
            SayCheck.refuses(x, 0, s[0], s[1], s[2], s[3], 1);
        }
        Check.due("take(11, false)", x.take(11, false), true);
        SayCheck.refuses(x, 0, 0, 5, 5, 0, 1);
        for (int k = 0; k < 12; k++) {
            Check.due("SAYING " + k + " is what it was", x.span(k, 0, false), k);
        }
        Check.due("first", x.first(0), 10);
        Check.due("look(12, 0)", x.look(12, 0), NONE);
    }

    /** "a WEIGHT 1 .. 100". */
    private static void weights() {
        DayBench x = Setup.withEvents(1);
        for (int weight : new int[] {MIN, -1, 0, 101, 102, MAX}) {
            SayCheck.refuses(x, 0, 0, 5, 5, 0, weight);
        }
        int[] good = {1, 2, 99, 100};
        for (int k = 0; k < good.length; k++) {
            Check.due("weight " + good[k], x.say(0, 0, 5, 5, 0, good[k]), k);
            Check.due("its look", x.look(k, 2), good[k]);
        }
    }

    /** "WHAT": 0 to 6. Each of these would be a good one by all the others' words. */
    private static void kindsOfSaying() {
        DayBench x = Setup.withEvents(2);
        x.king(0, 0, 0);
        for (int what : new int[] {MIN, -2, -1, 7, 8, MAX}) {
            SayCheck.refuses(x, 0, what, 0, 1, 1, 1);
            SayCheck.refuses(x, 0, what, 0, 1, 101, 1);
        }
        int[][] good = {{0, 0, 1, 1}, {1, 0, 1, 101}, {2, 0, 1, 1}, {3, 0, 1, 1}, {4, 0, 1, 1}, {5, 0, 1, 101}, {6, 0, 1, 1}};
        for (int[] s : good) {
            Check.due("WHAT " + s[0], x.say(0, s[0], s[1], s[2], s[3], 1), s[0]);
            Check.due("look 1", x.look(s[0], 1), s[0]);
        }
    }

    /** "each of an EVENT". */
    private static void eventOfASaying() {
        DayBench x = Setup.withEvents(3);
        for (int event : new int[] {MIN, -2, -1, 3, 4, 6, MAX}) {
            SayCheck.refuses(x, event, 0, 5, 5, 0, 1);
            SayCheck.refuses(x, event, 6, 5, 5, 1, 1);
        }
        for (int event = 0; event < 3; event++) {
            Check.due("a saying of EVENT " + event, x.say(event, 0, 5, 5, 0, 1), event);
            Check.due("its EVENT", x.look(event, 0), event);
        }
        x.event();
        Check.due("a saying of EVENT 3, then", x.say(3, 0, 5, 5, 0, 1), 3);
    }

    /** "0 SPAN: DAYS a .. b". */
    private static void spans() {
        int[][] good = {{0, 0}, {0, 1}, {1, 1}, {1, 2}, {0, 985999}, {0, 985998}, {1, 985999}, {985998, 985999}, {985999, 985999}, {500, 500}};
        for (int[] s : good) {
            says(0, s[0], s[1], 0, s[0], s[1]);
        }
        int[][] none = {{-1, 0}, {-1, -1}, {-1, 985999}, {0, 986000}, {985999, 986000}, {986000, 986000}, {1, 0}, {985999, 985998},
            {501, 500}, {985999, 0}, {MIN, 0}, {0, MAX}, {MIN, MAX}, {MAX, MIN}, {MAX, MAX}, {MIN, MIN}};
        for (int[] s : none) {
            refuses(0, s[0], s[1], 0);
        }
    }

    /** "1 DATE: CALENDAR a, year b, c is 100 by the month and the day". */
    private static void dates() {
        int start = Walk.day(0, 1900, 1, 1);
        says(1, 0, 1900, 101, start, start);
        says(1, 0, 1900, 102, start + 1, start + 1);
        says(1, 0, 1900, 131, start + 30, start + 30);
        says(1, 0, 1900, 201, start + 31, start + 31);
        says(1, 0, 1900, 228, start + 58, start + 58);
        says(1, 0, 1900, 301, start + 59, start + 59);
        says(1, 0, 1900, 1231, start + 364, start + 364);
        says(1, 1, 1900, 229, Walk.day(1, 1900, 2, 29), Walk.day(1, 1900, 2, 29));
        says(1, 2, 1900, 1230, 1898 * 365 + 365 + 359, 1898 * 365 + 365 + 359);
        says(1, 2, 1900, 1305, 1899 * 365 + 364, 1899 * 365 + 364);
        for (int c : new int[] {MIN, -101, -1, 0, 1, 31, 99, 100, 132, 199, 200, 229, 230, 300, 431, 1200, 1232, 1301, 1305, 10101, MAX}) {
            refuses(1, 0, 1900, c);
        }
        for (int c : new int[] {100, 131, 1231, 1300, 1306, 1401}) {
            refuses(1, 2, 1900, c);
        }
        refuses(1, 1, 1900, 230);
        says(1, 0, 1, 101, 0, 0);
        refuses(1, 1, 1, 101);
        refuses(1, 1, 1, 102);
        says(1, 1, 1, 103, 0, 0);
        says(1, 1, 1, 104, 1, 1);
        says(1, 0, 2698, 1231, 985423, 985423);
        says(1, 0, 2699, 1231, 985788, 985788);
        for (int calendar = 0; calendar < 3; calendar++) {
            refuses(1, calendar, MIN, 105);
            refuses(1, calendar, 0, 105);
            refuses(1, calendar, 2700, 105);
            refuses(1, calendar, MAX, 105);
        }
        for (int calendar : new int[] {MIN, -1, 3, MAX}) {
            refuses(1, calendar, 1900, 105);
        }
    }

    /** "2 MONTH: CALENDAR a, year b, month c", "what lies in DAYS". */
    private static void months() {
        for (int calendar = 0; calendar < 3; calendar++) {
            int start = calendar == 1 ? -2 + 365 : 365;
            refuses(2, calendar, 2, MIN);
            refuses(2, calendar, 2, -1);
            refuses(2, calendar, 2, 0);
            says(2, calendar, 2, 1, start, start + (calendar == 2 ? 29 : 30));
            says(2, calendar, 2, 2, start + (calendar == 2 ? 30 : 31), start + (calendar == 2 ? 59 : 58));
            says(2, calendar, 2, 11, start + (calendar == 2 ? 300 : 304), start + (calendar == 2 ? 329 : 333));
            says(2, calendar, 2, 12, start + (calendar == 2 ? 330 : 334), start + (calendar == 2 ? 359 : 364));
            refuses(2, calendar, 2, 14);
            refuses(2, calendar, 2, MAX);
            refuses(2, calendar, 0, 1);
            refuses(2, calendar, 0, 12);
            refuses(2, calendar, MIN, 1);
            refuses(2, calendar, 2700, 1);
            refuses(2, calendar, MAX, 1);
        }
        refuses(2, 0, 2, 13);
        refuses(2, 1, 2, 13);
        says(2, 2, 2, 13, 725, 729);
        says(2, 0, 1, 1, 0, 30);
        says(2, 1, 1, 1, 0, 28);
        says(2, 1, 1, 2, 29, 56);
        says(2, 2, 1, 1, 0, 29);
        says(2, 0, 2698, 12, 985393, 985423);
        says(2, 0, 2699, 12, 985758, 985788);
        says(2, 1, 2699, 12, 985776, 985806);
        says(2, 2, 2699, 13, 985130, 985134);
        for (int[] leap : new int[][] {{0, 1900, 28}, {0, 2000, 29}, {0, 2004, 29}, {0, 2005, 28}, {1, 1900, 29}, {1, 1901, 28}, {2, 2000, 30}}) {
            int from = Walk.day(leap[0], leap[1], 2, 1);
            says(2, leap[0], leap[1], 2, from, from + leap[2] - 1);
        }
        for (int calendar : new int[] {MIN, -1, 3, MAX}) {
            refuses(2, calendar, 5, 1);
        }
    }

    /** "3 YEAR: CALENDAR a, year b", "what lies in DAYS". */
    private static void years() {
        says(3, 0, 1, 0, 0, 364);
        says(3, 1, 1, 0, 0, 362);
        says(3, 2, 1, 0, 0, 364);
        says(3, 0, 2, 0, 365, 729);
        says(3, 1, 2, 0, 363, 727);
        says(3, 2, 2, 0, 365, 729);
        says(3, 0, 4, 0, 1095, 1460);
        says(3, 1, 4, 0, 1093, 1458);
        says(3, 2, 4, 0, 1095, 1459);
        says(3, 0, 2698, 0, 985059, 985423);
        says(3, 0, 2699, 0, 985424, 985788);
        says(3, 1, 2699, 0, 985442, 985806);
        says(3, 2, 2699, 0, 984770, 985134);
        for (int calendar = 0; calendar < 3; calendar++) {
            for (int year : new int[] {MIN, -1, 0, 2700, 2701, MAX}) {
                refuses(3, calendar, year, 0);
            }
        }
        for (int calendar : new int[] {MIN, -1, 3, MAX}) {
            refuses(3, calendar, 5, 0);
        }
    }

    /** "YEAR n (1 .. 60) of a reign", "to the DAY ahead of n years behind b". */
    private static void yearsOfAReign() {
        for (int n : new int[] {MIN, -1, 0, 61, 62, MAX}) {
            noReign(2, 1000, 1010, n);
        }
        for (int n : new int[] {1, 2, 59, 60}) {
            reign(2, 1000, 1010, n, 1000 + 365 * (n - 1), 1010 + 365 * n - 1);
            reign(2, 1000, 1000, n, 1000 + 365 * (n - 1), 1000 + 365 * n - 1);
        }
        reign(0, 0, 0, 1, 0, 364);
        reign(1, 0, 0, 1, 0, 364);
        reign(0, 0, 0, 4, 1095, 1460);
    }

    /** "neither may be none such". */
    private static void reignsThatEndBeyond() {
        int[] last = {985788, 985806, 985134};
        for (int calendar = 0; calendar < 3; calendar++) {
            int end = last[calendar];
            reign(calendar, end - 366, end - 366, 1, end - 366, end - 2);
            reign(calendar, end - 365, end - 365, 1, end - 365, end - 1);
            noReign(calendar, end - 364, end - 364, 1);
            noReign(calendar, end - 365, end - 364, 1);
            reign(calendar, 0, end - 365, 1, 0, end - 1);
            noReign(calendar, 0, end - 364, 1);
            noReign(calendar, 0, end, 1);
            noReign(calendar, 0, end + 1, 1);
            noReign(calendar, end, end, 1);
            noReign(calendar, end + 1, end + 1, 1);
            noReign(calendar, 0, 985999, 1);
            noReign(calendar, 985999, 985999, 1);
            noReign(calendar, end - 365, end - 365, 2);
            int ofSixty = Walk.day(calendar, 2639, 7, 7);
            reign(calendar, ofSixty, ofSixty, 60, Walk.day(calendar, 2698, 7, 7), Walk.day(calendar, 2699, 7, 7) - 1);
            ofSixty = Walk.day(calendar, 2640, 7, 7);
            reign(calendar, ofSixty, ofSixty, 59, Walk.day(calendar, 2698, 7, 7), Walk.day(calendar, 2699, 7, 7) - 1);
            noReign(calendar, ofSixty, ofSixty, 60);
        }
    }

    /** A reign's years from 29 February on begin on 1 March where there is none. */
    private static void reignsFromALeapDay() {
        int leap = Walk.day(0, 1896, 2, 29);
        reign(0, leap, leap, 1, leap, Walk.day(0, 1897, 2, 28));
        reign(0, leap, leap, 2, Walk.day(0, 1897, 3, 1), Walk.day(0, 1898, 2, 28));
        reign(0, leap, leap, 4, Walk.day(0, 1899, 3, 1), Walk.day(0, 1900, 2, 28));
        reign(0, leap, leap, 5, Walk.day(0, 1900, 3, 1), Walk.day(0, 1901, 2, 28));
        reign(0, leap, leap, 8, Walk.day(0, 1903, 3, 1), Walk.day(0, 1904, 2, 28));
        reign(0, leap, leap, 9, Walk.day(0, 1904, 2, 29), Walk.day(0, 1905, 2, 28));
        reign(0, leap - 1, leap - 1, 8, Walk.day(0, 1903, 2, 28), Walk.day(0, 1904, 2, 27));
        reign(0, leap + 1, leap + 1, 8, Walk.day(0, 1903, 3, 1), Walk.day(0, 1904, 2, 29));
    }

    /** "4 REIGN: KING a". */
    private static void kingOfAReign() {
        DayBench x = Setup.withEvents(1);
        SayCheck.refuses(x, 0, 4, 0, 1, 0, 1);
        x.king(2, 0, 0);
        SayCheck.refuses(x, 0, 4, 1, 1, 0, 1);
        x.king(2, 10, 20);
        for (int king : new int[] {MIN, -1, 2, 3, MAX}) {
            SayCheck.refuses(x, 0, 4, king, 1, 0, 1);
        }
        SayCheck.says(x, 4, 0, 1, 0, 0, 364);
        SayCheck.says(x, 4, 1, 1, 0, 10, 384);
    }

    private static int[] yearly(int first, int n) {
        int[] spans = new int[2 * n];
        for (int k = 0; k < 2 * n; k++) {
            spans[k] = first + k / 2 * 365;
        }
        return spans;
    }

    /** "5 FEAST: .. in any of the years b .. b + 9": ten of them, neither nine nor eleven. */
    private static void tenYearsOfAFeast() {
        says(5, 2, 1000, 711, yearly(999 * 365 + 190, 10));
        says(5, 2, 1, 101, yearly(0, 10));
        says(5, 2, 2, 1305, yearly(729, 10));
        says(5, 2, 2689, 101, yearly(2688 * 365, 10));
        says(5, 2, 2690, 101, yearly(2689 * 365, 10));
        says(5, 2, 2691, 101, yearly(2690 * 365, 9));
        DayBench x = Setup.withEvents(1);
        x.say(0, 5, 2, 1000, 101, 1);
        int start = 999 * 365;
        Check.due("can in year b - 1", x.can(0, start - 365), 0);
        Check.due("can ahead of it in year b", x.can(0, start - 1), 0);
        Check.due("can in year b", x.can(0, start), 1);
        Check.due("can behind it in year b", x.can(0, start + 1), 0);
        Check.due("can in year b + 8", x.can(0, start + 8 * 365), 1);
        Check.due("can in year b + 9", x.can(0, start + 9 * 365), 1);
        Check.due("can in year b + 10", x.can(0, start + 10 * 365), 0);
    }

    /** "in which there is one (one at least)": years that are none of a CALENDAR's have none. */
    private static void feastsWithOneYear() {
        for (int b : new int[] {MIN, MIN + 1, -11, -10, -9, 2700, 2701, MAX - 9, MAX - 8, MAX}) {
            refuses(5, 2, b, 101);
            refuses(5, 0, b, 101);
            refuses(5, 1, b, 105);
        }
        says(5, 2, -8, 101, yearly(0, 1));
        says(5, 2, -7, 101, yearly(0, 2));
        says(5, 2, 0, 101, yearly(0, 9));
        says(5, 2, 2698, 101, yearly(2697 * 365, 2));
        says(5, 2, 2699, 101, yearly(2698 * 365, 1));
        says(5, 0, 2699, 1231, 985788, 985788);
        says(5, 1, 2699, 1231, 985806, 985806);
        for (int c : new int[] {MIN, -101, 0, 1, 100, 132, 230, 431, 1232, 1301, MAX}) {
            refuses(5, 0, 1000, c);
            refuses(5, 1, 1000, c);
        }
        for (int c : new int[] {MIN, -101, 0, 1, 100, 131, 231, 1300, 1306, 1401, MAX}) {
            refuses(5, 2, 1000, c);
        }
        for (int calendar : new int[] {MIN, -1, 3, MAX}) {
            refuses(5, calendar, 1000, 101);
        }
    }

    private static int[] leapDays(int calendar, int... years) {
        int[] spans = new int[2 * years.length];
        for (int k = 0; k < spans.length; k++) {
            spans[k] = Walk.day(calendar, years[k / 2], 2, 29);
        }
        return spans;
    }

    /** Of a FEAST on 29 February only leap years count; no 1 March stands for it. */
    private static void feastsOfALeapDay() {
        says(5, 0, 1999, 229, leapDays(0, 2000, 2004, 2008));
        says(5, 0, 2000, 229, leapDays(0, 2000, 2004, 2008));
        says(5, 0, 2001, 229, leapDays(0, 2004, 2008));
        says(5, 0, 2003, 229, leapDays(0, 2004, 2008, 2012));
        says(5, 0, 1894, 229, leapDays(0, 1896));
        says(5, 0, 1895, 229, leapDays(0, 1896, 1904));
        says(5, 0, 1896, 229, leapDays(0, 1896, 1904));
        says(5, 0, 1897, 229, leapDays(0, 1904));
        says(5, 1, 1897, 229, leapDays(1, 1900, 1904));
        refuses(5, 0, -6, 229);
        says(5, 0, -5, 229, leapDays(0, 4));
        says(5, 0, -1, 229, leapDays(0, 4, 8));
        says(5, 0, 2695, 229, leapDays(0, 2696));
        says(5, 0, 2696, 229, leapDays(0, 2696));
        refuses(5, 0, 2697, 229);
        refuses(5, 1, 2697, 229);
    }

    /** The JULIAN dates ahead of DAY 0 are none. */
    private static void feastsAtTheFirstDay() {
        refuses(5, 1, -8, 101);
        refuses(5, 1, -8, 102);
        says(5, 1, -8, 103, 0, 0);
        says(5, 1, -8, 104, 1, 1);
        says(5, 1, -7, 102, 364, 364);
        says(5, 1, -7, 103, 0, 0, 365, 365);
        SayCheck.refuses(Setup.withEvents(1), 0, 5, 1, -9, 103, 1);
        DayBench x = Setup.withEvents(1);
        x.say(0, 5, 1, 1, 102, 1);
        Check.due("nine of ten", x.look(0, 6), 9);
        x.say(0, 5, 1, 1, 103, 1);
        Check.due("ten of ten", x.look(1, 6), 10);
    }

    /** "6 BEHIND: a .. b DAYS (-40000 .. 40000) behind EVENT c (another one)". */
    private static void behinds() {
        int[][] good = {{-40000, -40000}, {-40000, -39999}, {-39999, 0}, {0, 0}, {-1, 1}, {0, 39999}, {39999, 40000}, {40000, 40000}, {-40000, 40000}};
        for (int[] s : good) {
            says(6, s[0], s[1], 1);
        }
        int[][] none = {{-40001, -40001}, {-40001, -40000}, {-40001, 0}, {-40001, 40000}, {0, 40001}, {40000, 40001}, {40001, 40001},
            {-40000, 40001}, {1, 0}, {0, -1}, {40000, 39999}, {-39999, -40000}, {40000, -40000}, {MIN, 0}, {0, MAX}, {MIN, MAX}, {MAX, MIN},
            {MIN, MIN}, {MAX, MAX}};
        for (int[] s : none) {
            refuses(6, s[0], s[1], 1);
        }
        DayBench x = Setup.withEvents(3);
        for (int event = 0; event < 3; event++) {
            for (int c : new int[] {MIN, -1, event, 3, 4, MAX}) {
                SayCheck.refuses(x, event, 6, 0, 1, c, 1);
            }
        }
        int made = 0;
        for (int event = 0; event < 3; event++) {
            for (int c = 0; c < 3; c++) {
                if (c != event) {
                    Check.due("BEHIND of " + event + ", " + c, x.say(event, 6, 0, 1, c, 1), made++);
                }
            }
        }
    }

    /** "(Others are not looked at.)": c of SPAN, YEAR and REIGN may be anything. */
    private static void othersAreNotLookedAt() {
        for (int c : new int[] {MIN, -1, 0, 7, 986000, MAX}) {
            says(0, 5, 6, c, 5, 6);
            says(3, 2, 1, c, 0, 364);
            SayCheck.says(withKing(2, 0, 0), 4, 0, 1, c, 0, 364);
        }
    }

    private static DayBench withSayings(int n) {
        DayBench x = Setup.withEvents(2);
        for (int k = 0; k < n; k++) {
            x.say(k % 2, 0, 0, 9, 0, k + 1);
        }
        return x;
    }

    /** "a COPY of another one of a lesser number (of whatever EVENT)", "false: no such ones". */
    private static void copiesOfLesserNumbers() {
        DayBench x = withSayings(4);
        int[][] none = {{2, 2}, {2, 3}, {0, 0}, {0, 1}, {0, -1}, {2, -1}, {2, MIN}, {2, 4}, {2, MAX}, {4, 0}, {4, 3}, {4, 4}, {5, 4},
            {12, 0}, {-1, 0}, {-1, -1}, {-1, -2}, {MIN, 0}, {MAX, 0}, {MAX, MIN}, {MIN, MAX}};
        for (int[] pair : none) {
            Check.due("copy(" + pair[0] + ", " + pair[1] + ")", x.copy(pair[0], pair[1]), false);
        }
        for (int k = 0; k < 4; k++) {
            Check.due("SAYING " + k + " is no COPY", x.look(k, 4), NONE);
            Check.due("SAYING " + k + " is its ROOT", x.look(k, 5), k);
        }
        Check.due("copy(2, 1), one number less, another EVENT", x.copy(2, 1), true);
        Check.due("copy(1, 0)", x.copy(1, 0), true);
        Check.due("copy(3, 0)", x.copy(3, 0), true);
        Check.due("look(2, 4)", x.look(2, 4), 1);
        Check.due("look(3, 4)", x.look(3, 4), 0);
        x = withSayings(12);
        Check.due("copy(11, 10)", x.copy(11, 10), true);
        Check.due("copy(10, 0)", x.copy(10, 0), true);
        Check.due("copy(12, 0)", x.copy(12, 0), false);
        Check.due("look(11, 5)", x.look(11, 5), 0);
    }

    /** "or it is a COPY already": then neither of the same nor of another. */
    private static void onlyOneCopy() {
        DayBench x = withSayings(4);
        Check.due("copy(3, 1)", x.copy(3, 1), true);
        Check.due("copy(3, 1) again", x.copy(3, 1), false);
        Check.due("copy(3, 0)", x.copy(3, 0), false);
        Check.due("copy(3, 2)", x.copy(3, 2), false);
        Check.due("look(3, 4)", x.look(3, 4), 1);
        Check.due("another COPY of the same", x.copy(2, 1), true);
        Check.due("look(2, 5)", x.look(2, 5), 1);
        Check.due("one that is copied may be a COPY", x.copy(1, 0), true);
        Check.due("a COPY of a COPY", x.look(3, 5), 0);
        x.take(3, false);
        Check.due("not TAKEN, it is a COPY yet", x.copy(3, 0), false);
        Check.due("look(3, 4)", x.look(3, 4), 1);
    }

    /** "it and those from which it comes have a ROOT": the longest chain there can be. */
    private static void rootsOfAChain() {
        DayBench x = withSayings(12);
        for (int k = 11; k > 0; k--) {
            Check.due("copy(" + k + ", " + (k - 1) + ")", x.copy(k, k - 1), true);
            Check.due("the last one's ROOT", x.look(11, 5), k - 1);
        }
        for (int k = 0; k < 12; k++) {
            Check.due("ROOT of " + k, x.look(k, 5), 0);
            Check.due("COPY of " + k, x.look(k, 4), k - 1);
            Check.due("WEIGHT of " + k + " is its own", x.look(k, 2), k + 1);
        }
    }

    /** "TAKEN at first", "false: none such, or it is so already". */
    private static void taking() {
        DayBench x = withSayings(3);
        for (int k : new int[] {MIN, -1, 3, 4, 12, MAX}) {
            Check.due("take(" + k + ", false)", x.take(k, false), false);
            Check.due("take(" + k + ", true)", x.take(k, true), false);
        }
        for (int k = 0; k < 3; k++) {
            Check.due("at first", x.look(k, 3), 1);
            Check.due("take(" + k + ", true) at first", x.take(k, true), false);
            Check.due("take(" + k + ", false)", x.take(k, false), true);
            Check.due("look then", x.look(k, 3), 0);
            Check.due("take(" + k + ", false) again", x.take(k, false), false);
            Check.due("look then", x.look(k, 3), 0);
            Check.due("the next one stays", x.look(k + 1, 3), k < 2 ? 1 : NONE);
            Check.due("SAYINGS", x.count(2), 3);
        }
        Check.due("take(1, true)", x.take(1, true), true);
        Check.due("take(1, true) again", x.take(1, true), false);
        Check.due("look(0, 3)", x.look(0, 3), 0);
        Check.due("look(1, 3)", x.look(1, 3), 1);
        Check.due("look(2, 3)", x.look(2, 3), 0);
    }

    /** look: "NONE if there is none such". */
    private static void looksAtASaying() {
        DayBench x = withSayings(3);
        x.copy(2, 1);
        int[] want = {0, 0, 3, 1, 1, 1, 1};
        for (int what = 0; what < 7; what++) {
            Check.due("look(2, " + what + ")", x.look(2, what), want[what]);
            for (int none : new int[] {MIN, -1, 3, 11, 12, MAX}) {
                Check.due("look(" + none + ", " + what + ")", x.look(none, what), NONE);
            }
        }
        for (int what : new int[] {MIN, -1, 7, 8, MAX}) {
            Check.due("look(2, " + what + ")", x.look(2, what), NONE);
        }
        x.say(0, 6, 0, 0, 1, 1);
        Check.due("SPANS of a BEHIND", x.look(3, 6), 0);
        x.say(0, 5, 2, 2699, 101, 1);
        Check.due("SPANS of a FEAST of one", x.look(4, 6), 1);
        x.say(0, 5, 2, 2698, 101, 1);
        Check.due("SPANS of a FEAST of two", x.look(5, 6), 2);
    }

    /** span: "NONE if there is none such". */
    private static void spansOfASaying() {
        DayBench x = Setup.withEvents(2);
        x.say(0, 5, 2, 2697, 101, 1);
        x.say(0, 6, 0, 0, 1, 1);
        x.say(0, 0, 4, 8, 0, 1);
        for (boolean last : new boolean[] {false, true}) {
            Check.due("span(0, 0)", x.span(0, 0, last), 2696 * 365);
            Check.due("span(0, 1)", x.span(0, 1, last), 2697 * 365);
            Check.due("span(0, 2)", x.span(0, 2, last), 2698 * 365);
            for (int k : new int[] {MIN, -1, 3, 9, 10, MAX}) {
                Check.due("span(0, " + k + ")", x.span(0, k, last), NONE);
            }
            for (int k = -1; k < 2; k++) {
                Check.due("a BEHIND has none: span(1, " + k + ")", x.span(1, k, last), NONE);
            }
            Check.due("span(2, 0)", x.span(2, 0, last), last ? 8 : 4);
            Check.due("span(2, 1)", x.span(2, 1, last), NONE);
            for (int saying : new int[] {MIN, -1, 3, 11, 12, MAX}) {
                Check.due("span(" + saying + ", 0)", x.span(saying, 0, last), NONE);
            }
        }
        x.take(2, false);
        Check.due("one that is not TAKEN has its SPANS", x.span(2, 0, true), 8);
    }
}
